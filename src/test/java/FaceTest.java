import java.io.IOException;
import java.lang.reflect.Field;
import java.lang.reflect.Method;
import java.lang.reflect.Modifier;
import java.nio.file.Files;
import java.nio.file.Path;
import java.util.TreeSet;
import java.util.regex.Matcher;
import java.util.regex.Pattern;

/** The class has the document's face and nothing beside it, and the source keeps to LANGUAGE.md where that can be seen. */
public final class FaceTest {
    private static final String[] FACE = {
        "int price(int,int,int)", "int make(int,int,int,int)", "int part(int,int,int)", "int join(int,int,int)",
        "int sell(int,int,int)", "int settle(int,int)", "int buy(int,int)", "int average(int,int,int)",
        "int look(int,int,int,int)", "long money(int,int,int)", "long owed(int,int,int)", "long parish(int,int,int)",
        "long cost(int,int)", "int field(int,int)", "int differ(int,int,int,int)", "int entry(int,int)", "int count(int)",
    };
    private static final String[] FORBIDDEN = {
        "\\bimport\\b", "\\bpackage\\b", "->", "::", "\\btry\\b", "\\bcatch\\b", "\\bfinally\\b", "\\bthrow\\b",
        "\\bsynchronized\\b", "\\bassert\\b", "Exact\\b", "\\bRandom\\b", "\\bSystem\\.(?!arraycopy)", "\\bThread\\b",
        "\\bwhile\\b", "\\bstatic \\{",
    };
    private static int wrong = 0;

    public static void main(String[] args) throws IOException {
        members();
        source();
        System.out.println(wrong == 0 ? "the face and the source are as they should be" : wrong + " faults");
        if (wrong != 0) {
            System.exit(1);
        }
    }

    private static void check(boolean good, String fault) {
        if (!good) {
            wrong++;
            System.out.println(fault);
        }
    }

    private static void members() {
        Class<?> face = TitheMap.class;
        check(Modifier.isPublic(face.getModifiers()) && Modifier.isFinal(face.getModifiers()), "the class is not public and final");
        check(face.getDeclaredConstructors().length == 1 && face.getConstructors().length == 1
                && face.getConstructors()[0].getParameterCount() == 0, "not just the one constructor");
        TreeSet<String> open = new TreeSet<>();
        TreeSet<String> openNames = new TreeSet<>();
        TreeSet<String> closedNames = new TreeSet<>();
        for (Method m : face.getDeclaredMethods()) {
            if (Modifier.isPrivate(m.getModifiers())) {
                closedNames.add(m.getName());
                continue;
            }
            check(m.getModifiers() == Modifier.PUBLIC, m + " is not just public");
            open.add(m.toString().replace("public ", "").replace("TitheMap.", ""));
            openNames.add(m.getName());
        }
        check(open.equals(new TreeSet<>(java.util.List.of(FACE))), "the methods are " + open);
        closedNames.retainAll(openNames);
        check(closedNames.isEmpty(), "private methods bear public names: " + closedNames);
        for (Field f : face.getDeclaredFields()) {
            check(Modifier.isPrivate(f.getModifiers()) || f.getName().equals("NONE"), f + " is not private");
        }
        check(TitheMap.NONE == -1, "NONE is not -1");
        for (Class<?> inside : face.getDeclaredClasses()) {
            check(Modifier.isStatic(inside.getModifiers()) && !Modifier.isPublic(inside.getModifiers()), inside + " is not static and hidden");
            check(inside.getDeclaredFields().length <= 20, inside + " has many fields");
        }
    }

    private static void source() throws IOException {
        String text = Files.readString(Path.of("src/main/java/TitheMap.java"));
        String code = text.replaceAll("(?s)/\\*.*?\\*/", "").replaceAll("//[^\n]*", "");
        for (String word : FORBIDDEN) {
            Matcher found = Pattern.compile(word).matcher(code);
            check(!found.find(), "the source has " + word);
        }
        // Objects and rows are made with the map alone: no call makes any.
        Matcher made = Pattern.compile("(?m)^.*\\bnew\\b.*$").matcher(code);
        while (made.find()) {
            String line = made.group().trim();
            check(line.contains("final ") || line.matches("(book|land|otherLand) = new .*"), "an object is made by a call: " + line);
        }
        check(text.chars().allMatch(c -> c == '\n' || c >= 32 && c < 127), "the source has signs beside plain ones");
    }
}
