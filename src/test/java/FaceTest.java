import java.lang.reflect.Constructor;
import java.lang.reflect.Field;
import java.lang.reflect.Method;
import java.lang.reflect.Modifier;
import java.nio.file.Files;
import java.nio.file.Path;
import java.util.ArrayList;
import java.util.List;
import java.util.Set;
import java.util.TreeSet;

/** The public face, and the rules of LANGUAGE.md that can be seen from outside or in the text. */
final class FaceTest {
    private static final Check check = new Check();
    private static final String[] FACE = {
        "row(int,int,int)", "set(int,int,int)", "copy(int,int,int,int,int)", "drop(int)", "feed(long,int)", "town()",
        "fault()", "loan(int,int,int)", "pay(int,int,int)", "paint(int,int)", "hedge(int,int)", "quarter(int)",
        "undo()", "person(int,int)", "fits(int,int,int)", "hiding(int)", "clear(int)", "coin(int)", "run(int,int)",
        "cheats()", "walk(int,int)", "image(int)", "restore(int)", "kind(int)", "as(int,int)", "ask(int,int)",
        "trace(int)", "count(int)", "status()"};
    private static final String[] RULED_OUT = {
        "throw", "throws", "try", "catch", "finally", "synchronized", "assert", "import", "package", "hashCode",
        "toString", "native", "volatile", "transient", "Exact"};

    public static void main(String[] args) throws Exception {
        hasTheFace();
        hasTheConstants();
        namesNoPrivateMethodAlike(DebtFronts.class);
        keepsToTheLanguage();
        keepsSmall(DebtFronts.class);
        keepsMethodsShort();
        makesRoomInConstructorsAlone();
        check.end();
    }

    private static void hasTheFace() {
        Set<String> there = new TreeSet<>();
        for (Method m : DebtFronts.class.getDeclaredMethods()) {
            if (m.isSynthetic()) {
                continue;
            }
            if (!Modifier.isPrivate(m.getModifiers())) {
                there.add(signature(m));
                check.isTrue(m + " is public, not static, and gives int", Modifier.isPublic(m.getModifiers())
                        && !Modifier.isStatic(m.getModifiers()) && m.getReturnType() == int.class);
            }
        }
        check.isTrue("methods " + there, there.equals(new TreeSet<>(List.of(FACE))));
        check.isTrue("final and public", DebtFronts.class.getModifiers() == (Modifier.PUBLIC | Modifier.FINAL));
        Constructor<?>[] made = DebtFronts.class.getDeclaredConstructors();
        check.isTrue("one constructor", made.length == 1 && Modifier.isPublic(made[0].getModifiers())
                && made[0].getParameterCount() == 0);
    }

    private static String signature(Method m) {
        List<String> types = new ArrayList<>();
        for (Class<?> type : m.getParameterTypes()) {
            types.add(type.getName());
        }
        return m.getName() + "(" + String.join(",", types) + ")";
    }

    private static void hasTheConstants() {
        Set<String> there = new TreeSet<>();
        for (Field f : DebtFronts.class.getDeclaredFields()) {
            if (!Modifier.isPrivate(f.getModifiers())) {
                there.add(f.getName());
            }
            check.isTrue(f + " static means final", !Modifier.isStatic(f.getModifiers())
                    || Modifier.isFinal(f.getModifiers()));
        }
        check.isTrue("constants " + there, there.equals(Set.of("NONE", "BAD", "STATE", "FULL")));
        check.due("NONE", DebtFronts.NONE, Check.NONE);
        check.due("BAD", DebtFronts.BAD, Check.BAD);
        check.due("STATE", DebtFronts.STATE, Check.STATE);
        check.due("FULL", DebtFronts.FULL, Check.FULL);
    }

    private static void namesNoPrivateMethodAlike(Class<?> type) {
        Set<String> face = new TreeSet<>();
        for (String one : FACE) {
            face.add(one.substring(0, one.indexOf('(')));
        }
        for (Class<?> inside : type.getDeclaredClasses()) {
            check.isTrue(inside + " is static", Modifier.isStatic(inside.getModifiers()));
            for (Method m : inside.getDeclaredMethods()) {
                check.isTrue(m + " has a name of its own", !face.contains(m.getName()));
            }
        }
        for (Method m : type.getDeclaredMethods()) {
            check.isTrue(m + " is public or has a name of its own",
                    Modifier.isPublic(m.getModifiers()) || !face.contains(m.getName()));
            check.isTrue(m + " takes seven at most", m.getParameterCount() <= 7);
        }
    }

    private static void keepsToTheLanguage() throws Exception {
        String path = System.getProperty("debtfronts.source", "src/main/java/DebtFronts.java");
        String text = Files.readString(Path.of(path));
        String code = text.replaceAll("(?s)/\\*.*?\\*/", " ").replaceAll("//[^\n]*", " ");
        for (String word : RULED_OUT) {
            check.isTrue("no " + word, !java.util.regex.Pattern.compile("\\b" + word + "\\b").matcher(code).find());
        }
        check.isTrue("no lambda, no method reference", !code.contains("->") && !code.contains("::"));
        check.isTrue("plain signs alone", text.chars().allMatch(c -> c == 10 || c >= 32 && c < 127));
    }

    /** Rule 11: "the file has at most some twelve classes, and a class some twenty fields beside its constants". */
    private static void keepsSmall(Class<?> type) {
        check.isTrue("few classes", type.getDeclaredClasses().length < 12);
        List<Class<?>> all = new ArrayList<>(List.of(type.getDeclaredClasses()));
        all.add(type);
        for (Class<?> one : all) {
            int fields = 0;
            for (Field f : one.getDeclaredFields()) {
                boolean isConstant = Modifier.isStatic(f.getModifiers());
                fields += isConstant ? 0 : 1;
                check.isTrue(f + " is final, if static", !isConstant || Modifier.isFinal(f.getModifiers()));
            }
            check.isTrue(one + " has few fields", fields <= 20);
            for (Method m : one.getDeclaredMethods()) {
                check.isTrue(m + " takes seven at most", m.getParameterCount() <= 7);
            }
        }
    }

    private static List<String> source() throws Exception {
        return Files.readAllLines(Path.of(System.getProperty("debtfronts.source", "src/main/java/DebtFronts.java")));
    }

    /** Rule 11: "Methods stay short (some sixty lines)"; a method ends with the brace that stands below its first sign. */
    private static void keepsMethodsShort() throws Exception {
        List<String> lines = source();
        int methods = 0;
        for (int i = 0; i < lines.size(); i++) {
            String line = lines.get(i);
            String blanks = line.substring(0, line.length() - line.stripLeading().length());
            boolean isIn = blanks.length() == 4 || blanks.length() == 8;
            if (isIn && line.endsWith(") {") && line.strip().matches("[a-zA-Z\\[\\] ]+\\(.*") && !line.strip().startsWith("if ")
                    && !line.strip().startsWith("for ") && !line.strip().startsWith("while ")
                    && !line.strip().startsWith("switch ")) {
                int end = i;
                while (end < lines.size() && !lines.get(end).equals(blanks + "}")) {
                    end++;
                }
                methods++;
                check.isTrue(line.strip() + " is short", end - i < 60);
            }
        }
        check.isTrue("the methods were seen: " + methods, methods > 60);
    }

    /** All calls of one run live in one room: so no call makes an object. */
    private static void makesRoomInConstructorsAlone() throws Exception {
        String text = String.join("\n", source()).replaceAll("(?s)/\\*.*?\\*/", " ").replaceAll("//[^\n]*", " ");
        String calls = text.replaceAll("(?s)\n    public DebtFronts\\(\\) \\{.*?\n    \\}", "\n")
                .replaceAll("(?s)\n        [A-Z][A-Za-z]*\\(\\) \\{.*?\n        \\}", "\n");
        check.isTrue("constructors make objects", text.matches("(?s).*\\bnew\\b.*"));
        check.isTrue("calls make none", !calls.matches("(?s).*\\bnew\\b.*"));
    }
}
