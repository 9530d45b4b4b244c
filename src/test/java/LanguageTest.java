import java.lang.reflect.Constructor;
import java.lang.reflect.Field;
import java.lang.reflect.Member;
import java.lang.reflect.Method;
import java.lang.reflect.Modifier;
import java.nio.file.Files;
import java.nio.file.Path;
import java.util.ArrayList;
import java.util.Arrays;
import java.util.List;
import java.util.Set;
import java.util.TreeSet;
import java.util.regex.Matcher;
import java.util.regex.Pattern;

/** The rules of LANGUAGE.md that can be looked at from outside, and the document's face. */
public final class LanguageTest {
    private static final Path SOURCE = Path.of("src/main/java/KeyOnStreet.java");
    private static final String[] FACE = {
        "int letter(int)", "int blank()", "int fault()", "int town()", "int about(int,int)", "int as(int,int)",
        "int shut(int,boolean)", "int lay(int)", "int pass(int)", "int open(int)", "int night()", "int next(int)",
        "int by(int,int)", "int best(int)", "int shortest()", "int hang()", "int twoKeys()", "int see(int,int,boolean)",
        "int forget()", "int guess(int)", "int nights(int,int,int)", "int image()", "int restore()", "int count(int)",
        "long digest()"};
    private static final String[] NOT_IN_SOURCE = {
        "\\bthrow\\b", "\\bthrows\\b", "\\btry\\b", "\\bcatch\\b", "\\bsynchronized\\b", "\\bassert\\b", "\\bimport\\b",
        "\\bpackage\\b", "\\bthis\\s*::", "->", "::", "@", "\\bSystem\\.(?!arraycopy)", "\\bObject\\b", "\\bThread\\b",
        "\\bvar\\b", "\\bdouble\\b", "\\bfloat\\b", "Exact\\b", "\\bstatic\\s*\\{", "\\[\\]\\s*\\[\\]"};
    private static int wrong;

    public static void main(String[] args) throws Exception {
        face();
        insideClasses();
        words();
        System.out.println(wrong == 0 ? "rules are kept" : wrong + " rules are broken");
        System.exit(wrong == 0 ? 0 : 1);
    }

    private static void check(boolean holds, String what) {
        if (!holds) {
            wrong++;
            System.out.println("rule broken: " + what);
        }
    }

    private static void face() {
        Class<?> face = KeyOnStreet.class;
        check(Modifier.isPublic(face.getModifiers()) && Modifier.isFinal(face.getModifiers()), "public final class");
        Set<String> methods = new TreeSet<>();
        for (Method m : face.getDeclaredMethods()) {
            if (!Modifier.isPrivate(m.getModifiers())) {
                check(Modifier.isPublic(m.getModifiers()) && !Modifier.isStatic(m.getModifiers()), "public: " + m);
                methods.add(signature(m));
            }
        }
        check(methods.equals(new TreeSet<>(List.of(FACE))), "the face's methods, but they are " + methods);
        Constructor<?>[] made = face.getDeclaredConstructors();
        check(made.length == 1 && Modifier.isPublic(made[0].getModifiers()) && made[0].getParameterCount() == 0, "one constructor");
        Set<String> constants = new TreeSet<>();
        for (Field f : face.getDeclaredFields()) {
            if (!Modifier.isPrivate(f.getModifiers())) {
                constants.add(f.getName());
            }
        }
        check(constants.equals(Set.of("NONE", "UNKNOWN", "OUTSIDE", "STATE", "FULL")), "constants, but they are " + constants);
    }

    private static String signature(Method m) {
        StringBuilder text = new StringBuilder(m.getReturnType() + " " + m.getName() + "(");
        for (Class<?> type : m.getParameterTypes()) {
            text.append(text.charAt(text.length() - 1) == '(' ? "" : ",").append(type);
        }
        return text.append(")").toString();
    }

    private static void insideClasses() {
        List<Class<?>> all = new ArrayList<>(List.of(KeyOnStreet.class));
        all.addAll(Arrays.asList(KeyOnStreet.class.getDeclaredClasses()));
        check(all.size() <= 12, "some twelve classes: " + all.size());
        Set<String> publicNames = new TreeSet<>();
        for (String one : FACE) {
            publicNames.add(one.substring(one.indexOf(' ') + 1, one.indexOf('(')));
        }
        for (Class<?> one : all) {
            boolean inside = one != KeyOnStreet.class;
            check(!inside || Modifier.isStatic(one.getModifiers()), "static: " + one);
            check(one.getDeclaredClasses().length == 0 || !inside, "no class inside: " + one);
            int fields = 0;
            for (Field f : one.getDeclaredFields()) {
                boolean constant = Modifier.isStatic(f.getModifiers());
                check(!constant || Modifier.isFinal(f.getModifiers()), "static fields are final: " + f);
                fields += constant ? 0 : 1;
            }
            check(fields <= 20, "some twenty fields: " + one);
            for (Method m : one.getDeclaredMethods()) {
                check(m.getParameterCount() <= 7, "seven parameters: " + m);
                check(!m.isSynthetic(), "no lambda or bridge: " + m);
                check(isOfFace(m) || !publicNames.contains(m.getName()), "a public one's name: " + m);
            }
        }
    }

    private static boolean isOfFace(Member m) {
        return m.getDeclaringClass() == KeyOnStreet.class && Modifier.isPublic(m.getModifiers());
    }

    private static void words() throws Exception {
        String source = Files.readString(SOURCE);
        for (int i = 0; i < source.length(); i++) {
            check(source.charAt(i) < 128, "sign at " + i);
        }
        String bare = source.replaceAll("(?s)/\\*.*?\\*/", "").replaceAll("//[^\n]*", "");
        bare = bare.replaceAll("\"[^\"\n]*\"", "\"\"");
        for (String word : NOT_IN_SOURCE) {
            Matcher m = Pattern.compile(word).matcher(bare);
            check(!m.find(), "not to be written: " + word);
        }
        methodLengths(bare);
    }

    private static void methodLengths(String bare) {
        String[] lines = bare.split("\n");
        for (int i = 0; i < lines.length; i++) {
            Matcher m = Pattern.compile("^( +)[\\w\\[\\] ]+\\([^;]*\\) \\{$").matcher(lines[i]);
            if (m.matches() && !lines[i].trim().matches("(if|for|while|switch).*")) {
                int end = i;
                while (end < lines.length && !lines[end].equals(m.group(1) + "}")) {
                    end++;
                }
                check(end - i <= 60, "sixty lines: " + lines[i].trim());
            }
        }
    }
}
