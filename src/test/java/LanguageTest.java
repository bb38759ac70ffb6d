import java.lang.management.ManagementFactory;
import java.lang.reflect.Constructor;
import java.lang.reflect.Field;
import java.lang.reflect.Method;
import java.lang.reflect.Modifier;
import java.nio.file.Files;
import java.nio.file.Path;
import java.util.Arrays;
import java.util.HashSet;
import java.util.Set;
import java.util.TreeSet;
import java.util.regex.Matcher;
import java.util.regex.Pattern;

/** The rules of LANGUAGE.md that can be looked at from outside: the face, words that may not stand, the room. */
public final class LanguageTest {
    private static final String[] FACE = {
        "int letter(int)", "int blank()", "int fault()", "int machine()", "int word(int)", "int state(int,int)",
        "int as(int,int)", "int sign(int,int)", "int act(int,int,int)", "int flips(int,int)",
        "int round(int,int,int)", "int nothing(int)", "int alike(int,int)", "int order(int)",
        "int times(int,int,int)", "int undo(int,int)", "int section(int,int,int)", "int aim(int,int,int)",
        "int change(int,int)", "int see(int,int,boolean)", "int forget()", "int drawn(int,int,int)", "int image()",
        "int restore()", "int count(int)", "long digest()"};
    private static final String[] CONSTANTS = {"NONE=-1", "UNKNOWN=-101", "OUTSIDE=-102", "STATE=-103", "FULL=-104"};
    private static int wrong = 0;

    public static void main(String[] args) throws Exception {
        face();
        nested();
        source();
        room();
        longUse();
        System.out.println(wrong == 0 ? "the rules are kept" : wrong + " rules are broken");
        if (wrong != 0) {
            System.exit(1);
        }
    }

    private static void due(String rule, boolean holds) {
        if (!holds) {
            wrong++;
            System.out.println("broken: " + rule);
        }
    }

    private static void face() throws Exception {
        Class<?> face = TreeActs.class;
        due("the class is public and final", Modifier.isPublic(face.getModifiers())
            && Modifier.isFinal(face.getModifiers()));
        Set<String> methods = new TreeSet<>();
        Set<String> publicNames = new HashSet<>();
        for (Method method : face.getDeclaredMethods()) {
            if (Modifier.isPrivate(method.getModifiers())) {
                continue;
            }
            publicNames.add(method.getName());
            String types = Arrays.toString(method.getParameterTypes()).replaceAll("[\\[\\] ]", "");
            methods.add((Modifier.isPublic(method.getModifiers()) ? "" : "not public ") + method.getReturnType()
                + " " + method.getName() + "(" + types + ")");
        }
        due("methods are those of the document: " + methods, methods.equals(new TreeSet<>(Arrays.asList(FACE))));
        for (Method method : face.getDeclaredMethods()) {
            due("no private method named as a public one: " + method.getName(),
                !Modifier.isPrivate(method.getModifiers()) || !publicNames.contains(method.getName()));
        }
        Set<String> constants = new TreeSet<>();
        for (Field field : face.getDeclaredFields()) {
            if (!Modifier.isPrivate(field.getModifiers())) {
                due("a constant: " + field.getName(), Modifier.isStatic(field.getModifiers())
                    && Modifier.isFinal(field.getModifiers()) && Modifier.isPublic(field.getModifiers()));
                constants.add(field.getName() + "=" + field.getInt(null));
            }
            due("static fields are final: " + field.getName(),
                !Modifier.isStatic(field.getModifiers()) || Modifier.isFinal(field.getModifiers()));
        }
        due("constants are those of the document: " + constants,
            constants.equals(new TreeSet<>(Arrays.asList(CONSTANTS))));
        Constructor<?>[] constructors = face.getDeclaredConstructors();
        due("one public constructor without parameters", constructors.length == 1
            && Modifier.isPublic(constructors[0].getModifiers()) && constructors[0].getParameterCount() == 0);
    }

    private static void nested() {
        Class<?>[] inside = TreeActs.class.getDeclaredClasses();
        due("at most twelve classes", inside.length <= 11);
        for (Class<?> one : inside) {
            due("static: " + one.getName(), Modifier.isStatic(one.getModifiers()));
            for (Method method : one.getDeclaredMethods()) {
                due("at most seven parameters: " + method, method.getParameterCount() <= 7);
            }
        }
    }

    private static void source() throws Exception {
        String text = Files.readString(Path.of("src/main/java/TreeActs.java"));
        String code = text.replaceAll("(?s)/\\*.*?\\*/", "").replaceAll("//[^\n]*", "");
        String[] never = {"throw", "throws", "try", "catch", "finally", "synchronized", "assert", "import", "package",
            "volatile", "native", "System\\.(?!arraycopy)\\w+", "\\w+Exact", "toString", "hashCode", "->", "::"};
        for (String word : never) {
            String whole = Character.isLetter(word.charAt(0)) || word.charAt(0) == '\\' ? "\\b" + word + "\\b" : word;
            Matcher found = Pattern.compile(whole).matcher(code);
            due("no " + word, !found.find());
        }
        for (int i = 0; i < text.length(); i++) {
            due("signs 1 to 127 alone", text.charAt(i) > 0 && text.charAt(i) < 128);
        }
    }

    /** No call makes anything that stays uncounted: 512 of the dearest ones within a small room. */
    private static void room() {
        com.sun.management.ThreadMXBean counter =
            (com.sun.management.ThreadMXBean) ManagementFactory.getThreadMXBean();
        TreeActs x = new TreeActs();
        long before = counter.getCurrentThreadAllocatedBytes();
        long sum = 0;
        for (char letter : "s14,s53,f41,s32,w24,s0-".toCharArray()) {
            sum += x.letter(letter);
        }
        sum += x.machine();
        for (char letter : "aFbcDeAb".toCharArray()) {
            sum += x.letter(letter);
        }
        sum += x.word(0);
        sum += x.times(0, 0, 1);
        for (int i = 0; i < 90; i++) {
            sum += x.digest() + x.order(1) + x.alike(0, 1) + x.drawn(30, i, 0) + x.image();
        }
        long after = counter.getCurrentThreadAllocatedBytes();
        due("512 calls make next to nothing: " + (after - before) + " bytes, " + sum, after - before < 20000);
    }

    /** Behind the 512th call what is answered is free, but no call may throw or fail to end (rule 7). */
    private static void longUse() {
        TreeActs x = new TreeActs();
        long sum = 0;
        for (int i = 0; i < 3000; i++) {
            for (char letter : (i % 2 == 0 ? "f-0" : "s01,w1-").toCharArray()) {
                sum += x.letter(letter);
            }
            sum += x.machine() + x.letter('a') + x.word(i % 3) + x.times(i % 3, i % 3, 1) + x.see(0, i % 5, true);
            sum += x.image() + x.restore() + x.order(i % 4) + x.aim(0, i % 3, i % 4 - 1) + x.change(0, i % 6);
        }
        due("an object can be used on and on: " + sum, x.digest() == x.digest());
    }
}
