import java.io.IOException;
import java.lang.reflect.Constructor;
import java.lang.reflect.Field;
import java.lang.reflect.Method;
import java.lang.reflect.Modifier;
import java.nio.charset.StandardCharsets;
import java.nio.file.Files;
import java.nio.file.Path;
import java.util.Set;
import java.util.TreeSet;
import java.util.regex.Matcher;
import java.util.regex.Pattern;

/** The face of the class is the document's, and the file keeps to what can be seen of LANGUAGE.md. */
public final class FaceTest {
    private static final Set<String> FACE = Set.of(
        "int candidate()", "int ballot(int,int)", "int many(int,int)", "int drop()", "int gone(int,boolean)",
        "int set(int,int)", "int swap(int,int)", "int of(int,int)", "int ballotOf(int,int)", "int rowOf(int,int)",
        "int told(int)", "int stageOf(int,int)", "long amount(int,int)", "long votes(int,int,int)", "int elected(int)",
        "int ranked(int)", "int standing(int,int)", "int pile(int,int)", "int preferred(int,int)", "int best()",
        "long share(int,int,int)", "int without(int)", "int raised(int,int)", "int needs(int,int)",
        "int see(int,boolean)", "int fits(int)", "int event(int,int)", "int after()", "int feed(int)", "int read()",
        "int cause(int,int)", "int judge(int,int,int)", "int image()", "int undo()", "int count(int)",
        "int tape(int,int,int)", "int item(int,int,long)", "long peek(int,int)", "int shift(int,int,int,int,int)");
    private static final Set<String> CONSTANTS = Set.of("int NONE", "int BAD", "int STATE", "int FULL", "int OVER", "long NO");
    /** What LANGUAGE.md rules out, or what this file has no need of. */
    private static final String[] NOT_THERE = {"\\bcatch\\b", "\\btry\\b", "\\bthrow", "Exact\\b", "->", "::", "\\bfinally\\b",
        "\\bsynchronized\\b", "\\bassert\\b", "\\bpackage\\b", "\\bequals\\b", "\\bhashCode\\b", "\\btoString\\b",
        "\\binstanceof\\b", "\\bSystem\\.(?!arraycopy)", "\\bRandom\\b", "\\bThread\\b", "\\bnew (?:int|long|boolean)\\[[^\\]]*\\]\\[",
        "[^\\x00-\\x7f]", "\\bstatic (?!final\\b)[a-zA-Z\\[\\]]+ [a-zA-Z]+( =|;)"};

    public static void main(String[] args) throws IOException {
        Check check = new Check();
        check.about("the face");
        Set<String> face = new TreeSet<>();
        for (Method m : KeepCount.class.getDeclaredMethods()) {
            if (!Modifier.isPrivate(m.getModifiers())) {
                face.add(said(m));
                check.due("public, not static: " + m, Modifier.PUBLIC, m.getModifiers());
            }
            for (String due : FACE) {
                boolean bears = due.contains(" " + m.getName() + "(");
                check.due("a private method bears the name of " + m, 0, bears && Modifier.isPrivate(m.getModifiers()) ? 1 : 0);
            }
        }
        check.due("methods " + face, 1, face.equals(FACE) ? 1 : 0);
        Set<String> constants = new TreeSet<>();
        for (Field f : KeepCount.class.getDeclaredFields()) {
            if (!Modifier.isPrivate(f.getModifiers())) {
                constants.add(f.getType() + " " + f.getName());
                check.due("a constant: " + f, Modifier.PUBLIC | Modifier.STATIC | Modifier.FINAL, f.getModifiers());
            }
        }
        check.due("constants " + constants, 1, constants.equals(CONSTANTS) ? 1 : 0);
        Constructor<?>[] constructors = KeepCount.class.getDeclaredConstructors();
        check.due("constructors", 1, constructors.length);
        check.due("it is public", Modifier.PUBLIC, constructors[0].getModifiers());
        check.due("it takes nothing", 0, constructors[0].getParameterCount());
        check.due("the class", Modifier.PUBLIC | Modifier.FINAL, KeepCount.class.getModifiers());
        for (Class<?> inside : KeepCount.class.getDeclaredClasses()) {
            int kind = inside.getModifiers() & (Modifier.PUBLIC | Modifier.PROTECTED | Modifier.STATIC);
            check.due("static, not public: " + inside, Modifier.STATIC, kind);
            check.due("about twenty fields at most: " + inside, 1, inside.getDeclaredFields().length <= 20 ? 1 : 0);
        }
        check.due("about twelve classes at most", 1, KeepCount.class.getDeclaredClasses().length <= 11 ? 1 : 0);
        words(check);
        check.end(80);
    }

    private static String said(Method m) {
        StringBuilder s = new StringBuilder(m.getReturnType() + " " + m.getName() + "(");
        for (Class<?> type : m.getParameterTypes()) {
            s.append(s.charAt(s.length() - 1) == '(' ? "" : ",").append(type);
        }
        return s.append(")").toString();
    }

    private static void words(Check check) throws IOException {
        check.about("LANGUAGE.md");
        byte[] bytes = Files.readAllBytes(Path.of("src/main/java/KeepCount.java"));
        String source = new String(bytes, StandardCharsets.UTF_8);
        String code = source.replaceAll("(?s)/\\*.*?\\*/", "").replaceAll("//[^\n]*", "");
        for (String word : NOT_THERE) {
            Matcher m = Pattern.compile(word).matcher(code);
            check.due("no " + word + " in the file", 0, m.find() ? 1 : 0);
        }
        Matcher imports = Pattern.compile("import ([^;]*);").matcher(code);
        while (imports.find()) {
            check.due("import " + imports.group(1), 1, imports.group(1).equals("java.util.Arrays") ? 1 : 0);
        }
    }
}
