import java.lang.reflect.Constructor;
import java.lang.reflect.Field;
import java.lang.reflect.Method;
import java.lang.reflect.Modifier;
import java.nio.file.Files;
import java.nio.file.Path;
import java.util.List;
import java.util.Set;
import java.util.TreeSet;
import java.util.regex.Matcher;
import java.util.regex.Pattern;

/** The face of the document, and those rules of LANGUAGE.md that can be seen without much reading. */
final class FaceTest {
    private static final Check check = new Check("FaceTest");

    public static void main(String[] args) throws Exception {
        face();
        membersAreHidden();
        classesInside();
        String code = withoutComments(Files.readString(Path.of("src/main/java/PercolateSets.java")));
        bannedWords(code);
        libraryOverNumbersAlone(code);
        methodsAreShort(code);
        check.end();
    }

    private static void face() {
        Set<String> want = new TreeSet<>(List.of("feed 5", "end 1", "save 0", "change 1", "drop 1", "place 0", "query 2",
            "needed 3", "object 1", "forget 1", "about 2", "unit 3", "run 1", "batch 0", "matched 1", "alert 2", "match 2",
            "candidate 2", "tried 1", "shown 3", "count 1"));
        Set<String> got = new TreeSet<>();
        for (Method method : PercolateSets.class.getDeclaredMethods()) {
            if (Modifier.isPublic(method.getModifiers())) {
                got.add(method.getName() + " " + method.getParameterCount());
                check.holds(method + " answers int", method.getReturnType() == int.class);
            }
        }
        check.text("public methods", got.toString(), want.toString());
        check.holds("public and final", PercolateSets.class.getModifiers() == (Modifier.PUBLIC | Modifier.FINAL));
        check.due("BAD", PercolateSets.BAD, -1);
        check.due("NONE", PercolateSets.NONE, -2);
        check.due("FULL", PercolateSets.FULL, -3);
    }

    private static void membersAreHidden() {
        Set<String> publicNames = new TreeSet<>();
        Set<String> privateNames = new TreeSet<>();
        for (Method method : PercolateSets.class.getDeclaredMethods()) {
            boolean isPublic = Modifier.isPublic(method.getModifiers());
            (isPublic ? publicNames : privateNames).add(method.getName());
            check.holds(method + " is public or private", isPublic || Modifier.isPrivate(method.getModifiers()));
        }
        for (Class<?> inside : PercolateSets.class.getDeclaredClasses()) {
            for (Method method : inside.getDeclaredMethods()) {
                privateNames.add(method.getName());
                check.holds(method + " has seven parameters at most", method.getParameterCount() <= 7);
            }
        }
        privateNames.retainAll(publicNames);
        check.text("no other method bears a public name", privateNames.toString(), "[]");
        Set<String> constants = Set.of("BAD", "NONE", "FULL");
        for (Field field : PercolateSets.class.getDeclaredFields()) {
            boolean isPrivate = Modifier.isPrivate(field.getModifiers());
            check.holds(field + " is hidden", isPrivate != constants.contains(field.getName()));
        }
        Constructor<?>[] constructors = PercolateSets.class.getDeclaredConstructors();
        check.due("constructors", constructors.length, 1);
        check.holds("a public one", Modifier.isPublic(constructors[0].getModifiers()));
    }

    private static void classesInside() {
        Class<?>[] inside = PercolateSets.class.getDeclaredClasses();
        check.holds("at most twelve classes", inside.length + 1 <= 12);
        for (Class<?> each : inside) {
            check.holds(each + " is static", Modifier.isStatic(each.getModifiers()));
            check.holds(each + " is hidden", !Modifier.isPublic(each.getModifiers()));
            int fields = 0;
            for (Field field : each.getDeclaredFields()) {
                fields += Modifier.isStatic(field.getModifiers()) ? 0 : 1;
                check.holds(field + " is final, if it is static",
                    !Modifier.isStatic(field.getModifiers()) || Modifier.isFinal(field.getModifiers()));
            }
            check.holds(each + " has some twenty fields at most", fields <= 20);
        }
    }

    private static String withoutComments(String text) {
        return text.replaceAll("(?s)/\\*.*?\\*/", "").replaceAll("//[^\n]*", "");
    }

    private static void bannedWords(String code) {
        String[] banned = {"\\bthrow\\b", "\\bthrows\\b", "\\btry\\b", "\\bcatch\\b", "\\bsynchronized\\b", "\\bassert\\b",
            "->", "::", "\\bpackage\\b", "\\bSystem\\.(?!arraycopy\\b)", "\\bArrays\\.(?!(copyOf|copyOfRange|fill)\\b)",
            "Exact\\b", "\\bequals\\b", "\\bhashCode\\b", "@", "\\bObject\\b", "\\bException\\b"};
        for (String word : banned) {
            Matcher found = Pattern.compile(word).matcher(code);
            check.holds("the program has no " + word, !found.find());
        }
        Matcher imports = Pattern.compile("(?m)^import ([^;]*);").matcher(code);
        while (imports.find()) {
            check.text("import", imports.group(1), "java.util.Arrays");
        }
    }

    /** Rule 4: the library's copies and fills are for arrays of numbers. */
    private static void libraryOverNumbersAlone(String code) {
        Set<String> others = new TreeSet<>();
        Matcher declared = Pattern.compile("\\b([A-Z]\\w*|boolean)\\[\\] (\\w+)").matcher(code);
        while (declared.find()) {
            others.add(declared.group(2));
        }
        check.holds("arrays of queries were seen", others.contains("queries"));
        Matcher calls = Pattern.compile("\\b(System\\.arraycopy|Arrays\\.\\w+)\\((\\w+\\.)?(\\w+)").matcher(code);
        while (calls.find()) {
            check.holds(calls.group() + " is over numbers", !others.contains(calls.group(3)));
        }
    }

    private static void methodsAreShort(String code) {
        int from = 0;
        String[] lines = code.split("\n");
        for (int i = 0; i < lines.length; i++) {
            if (lines[i].matches("    (    )?(private |public |static |abstract )*[\\w\\[\\]]+ \\w+\\(.*\\) \\{")) {
                from = i;
            } else if (lines[i].matches("    (    )?\\}")) {
                check.holds("the method at line " + from + " is short", i - from <= 60);
                from = i;
            }
        }
    }
}
