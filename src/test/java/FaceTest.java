import java.lang.reflect.Constructor;
import java.lang.reflect.Field;
import java.lang.reflect.Method;
import java.lang.reflect.Modifier;
import java.nio.file.Files;
import java.nio.file.Path;
import java.util.ArrayList;
import java.util.List;
import java.util.Set;
import java.util.TreeSet;

/** The public face, and the rules of LANGUAGE.md that can be seen from outside or in the text. */
final class FaceTest {
    private static final Check check = new Check();
    private static final String[] FACE = {
        "row(int,int,int)", "set(int,int,int)", "copy(int,int,int,int,int)", "drop(int)", "feed(long,int)", "town()",
        "fault()", "loan(int,int,int)", "pay(int,int,int)", "paint(int,int)", "hedge(int,int)", "quarter(int)",
        "undo()", "person(int,int)", "fits(int,int,int)", "hiding(int)", "clear(int)", "coin(int)", "run(int,int)",
        "cheats()", "walk(int,int)", "image(int)", "restore(int)", "kind(int)", "as(int,int)", "ask(int,int)",
        "trace(int)", "count(int)", "status()"};
    private static final String[] RULED_OUT = {
        "throw", "throws", "try", "catch", "finally", "synchronized", "assert", "import", "package", "hashCode",
        "toString", "native", "volatile", "transient", "Exact"};

    public static void main(String[] args) throws Exception {
        hasTheFace();
        hasTheConstants();
        namesNoPrivateMethodAlike(DebtFronts.class);
        keepsToTheLanguage();
        check.end();
    }

    private static void hasTheFace() {
        Set<String> there = new TreeSet<>();
        for (Method m : DebtFronts.class.getDeclaredMethods()) {
            if (m.isSynthetic()) {
                continue;
            }
            if (!Modifier.isPrivate(m.getModifiers())) {
                there.add(signature(m));
                check.isTrue(m + " is public, not static, and gives int", Modifier.isPublic(m.getModifiers())
                        && !Modifier.isStatic(m.getModifiers()) && m.getReturnType() == int.class);
            }
        }
        check.isTrue("methods " + there, there.equals(new TreeSet<>(List.of(FACE))));
        check.isTrue("final and public", DebtFronts.class.getModifiers() == (Modifier.PUBLIC | Modifier.FINAL));
        Constructor<?>[] made = DebtFronts.class.getDeclaredConstructors();
        check.isTrue("one constructor", made.length == 1 && Modifier.isPublic(made[0].getModifiers())
                && made[0].getParameterCount() == 0);
    }

    private static String signature(Method m) {
        List<String> types = new ArrayList<>();
        for (Class<?> type : m.getParameterTypes()) {
            types.add(type.getName());
        }
        return m.getName() + "(" + String.join(",", types) + ")";
    }

    private static void hasTheConstants() {
        Set<String> there = new TreeSet<>();
        for (Field f : DebtFronts.class.getDeclaredFields()) {
            if (!Modifier.isPrivate(f.getModifiers())) {
                there.add(f.getName());
            }
            check.isTrue(f + " static means final", !Modifier.isStatic(f.getModifiers())
                    || Modifier.isFinal(f.getModifiers()));
        }
        check.isTrue("constants " + there, there.equals(Set.of("NONE", "BAD", "STATE", "FULL")));
        check.due("NONE", DebtFronts.NONE, Check.NONE);
        check.due("BAD", DebtFronts.BAD, Check.BAD);
        check.due("STATE", DebtFronts.STATE, Check.STATE);
        check.due("FULL", DebtFronts.FULL, Check.FULL);
    }

    private static void namesNoPrivateMethodAlike(Class<?> type) {
        Set<String> face = new TreeSet<>();
        for (String one : FACE) {
            face.add(one.substring(0, one.indexOf('(')));
        }
        for (Class<?> inside : type.getDeclaredClasses()) {
            check.isTrue(inside + " is static", Modifier.isStatic(inside.getModifiers()));
            for (Method m : inside.getDeclaredMethods()) {
                check.isTrue(m + " has a name of its own", !face.contains(m.getName()));
            }
        }
        for (Method m : type.getDeclaredMethods()) {
            check.isTrue(m + " is public or has a name of its own",
                    Modifier.isPublic(m.getModifiers()) || !face.contains(m.getName()));
            check.isTrue(m + " takes seven at most", m.getParameterCount() <= 7);
        }
    }

    private static void keepsToTheLanguage() throws Exception {
        String path = System.getProperty("debtfronts.source", "src/main/java/DebtFronts.java");
        String text = Files.readString(Path.of(path));
        String code = text.replaceAll("(?s)/\\*.*?\\*/", " ").replaceAll("//[^\n]*", " ");
        for (String word : RULED_OUT) {
            check.isTrue("no " + word, !java.util.regex.Pattern.compile("\\b" + word + "\\b").matcher(code).find());
        }
        check.isTrue("no lambda, no method reference", !code.contains("->") && !code.contains("::"));
        check.isTrue("plain signs alone", text.chars().allMatch(c -> c == 10 || c >= 32 && c < 127));
    }
}
