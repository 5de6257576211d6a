import java.io.IOException;
import java.lang.reflect.Constructor;
import java.lang.reflect.Field;
import java.lang.reflect.Method;
import java.lang.reflect.Modifier;
import java.nio.file.Files;
import java.nio.file.Path;
import java.util.ArrayList;
import java.util.List;
import java.util.TreeSet;
import java.util.regex.Matcher;
import java.util.regex.Pattern;

/** The public face is the document's, no less and no more, in its order. */
public final class FaceTest {
    private static final List<String> FACE = List.of(
        "int feed(int)", "int end(int)", "int text()", "int fault()", "int rule(int)",
        "int one(int,int)", "int odd(int)", "int law(int,int)", "int owner(int)", "int by(int)",
        "int does(int)", "int comes(int)", "int tries(int,int)", "int hush(int,int)",
        "int weigh(int,int)", "int rank(int,int)", "int pick(int,int)",
        "int claim(int,int,int,int)", "int pivot(int)", "int spoils(int)", "int dead(int)",
        "int least(int)", "int who(int)", "int via(int,int)", "long odds(int,int,int,int)",
        "int turn(int,int)", "long best(int,int,int,int)", "int see(int,int)", "int forget(int)",
        "int fits(int)", "int drift(int,int,int)", "int keep(int)", "int back(int)",
        "int sheet(int,int,int)", "int lay(int,int,int)", "int read(int,int,int,int)",
        "int torn()", "int count(int)");

    /** What the interface says, and ahead of which call. */
    private static final String[][] SAYS = {{"the text, what there is", "feed"},
        {"what is changed", "does"}, {"deeds", "claim"}, {"all cases", "dead"}, {"trying", "best"},
        {"seen", "see"}, {"by a seed", "drift"}, {"images, sheets", "keep"}};
    private static final Pattern PUBLIC =
        Pattern.compile("^    public (int|long) (\\w+)\\(([^)]*)\\) \\{", Pattern.MULTILINE);

    private FaceTest() {
    }

    public static void main(String[] args) throws IOException {
        Check.due("BAD", ThirdSon.BAD, -1);
        Check.due("STATE", ThirdSon.STATE, -2);
        Check.due("FULL", ThirdSon.FULL, -3);
        Check.due("NONE", ThirdSon.NONE, -4);
        Check.due("final class", Modifier.isFinal(ThirdSon.class.getModifiers()) ? 1 : 0, 1);
        methods();
        others();
        order(Files.readString(Path.of("src/main/java/ThirdSon.java")));
        Check.close("FaceTest");
    }

    private static void methods() {
        TreeSet<String> found = new TreeSet<>();
        TreeSet<String> names = new TreeSet<>();
        for (Method m : ThirdSon.class.getDeclaredMethods()) {
            if (Modifier.isPublic(m.getModifiers())) {
                String whole = m.toString().replace("public ", "").replace("ThirdSon.", "");
                found.add(whole);
                names.add(m.getName());
            }
        }
        for (String line : FACE) {
            Check.due(line + " is there", found.contains(line) ? 1 : 0, 1);
        }
        Check.due("public methods", found.size(), FACE.size());
        for (Method m : ThirdSon.class.getDeclaredMethods()) {
            if (!Modifier.isPublic(m.getModifiers())) {
                Check.due(m + " is private", Modifier.isPrivate(m.getModifiers()) ? 1 : 0, 1);
                Check.due(m + " has a name of its own", names.contains(m.getName()) ? 0 : 1, 1);
            }
        }
    }

    private static void others() {
        int shown = 0;
        for (Field f : ThirdSon.class.getDeclaredFields()) {
            if (!Modifier.isPrivate(f.getModifiers())) {
                shown++;
                Check.due(f + " is a constant", f.toString().equals(
                    "public static final int ThirdSon." + f.getName()) ? 1 : 0, 1);
            }
        }
        Check.due("fields that are not private", shown, 4);
        Constructor<?>[] all = ThirdSon.class.getDeclaredConstructors();
        Check.due("constructors", all.length, 1);
        Check.due("of the constructor", all[0].getParameterCount(), 0);
        Check.due("public constructor", Modifier.isPublic(all[0].getModifiers()) ? 1 : 0, 1);
        for (Class<?> c : ThirdSon.class.getDeclaredClasses()) {
            int how = c.getModifiers();
            Check.due(c + " is static", Modifier.isStatic(how) ? 1 : 0, 1);
            Check.due(c + " is not public",
                Modifier.isPublic(how) || Modifier.isProtected(how) ? 1 : 0, 0);
        }
    }

    private static void order(String source) {
        List<String> found = new ArrayList<>();
        Matcher call = PUBLIC.matcher(source);
        while (call.find()) {
            String numbers = call.group(3).replaceAll("int \\w+", "int").replace(" ", "");
            found.add(call.group(1) + " " + call.group(2) + "(" + numbers + ")");
        }
        for (int i = 0; i < FACE.size(); i++) {
            boolean same = i < found.size() && found.get(i).equals(FACE.get(i));
            Check.due("in its order: " + FACE.get(i), same ? 1 : 0, 1);
        }
        for (String[] says : SAYS) {
            Pattern ahead = Pattern.compile("// ---- " + says[0] + "\\s+public \\w+ " + says[1] + "\\(");
            Check.due("---- " + says[0], ahead.matcher(source).find() ? 1 : 0, 1);
        }
    }
}
