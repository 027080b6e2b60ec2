import java.io.IOException;
import java.lang.reflect.Constructor;
import java.lang.reflect.Field;
import java.lang.reflect.Member;
import java.lang.reflect.Method;
import java.lang.reflect.Modifier;
import java.nio.charset.StandardCharsets;
import java.nio.file.Files;
import java.nio.file.Path;
import java.util.ArrayList;
import java.util.Arrays;
import java.util.Collections;
import java.util.List;
import java.util.regex.Matcher;
import java.util.regex.Pattern;

/** The face as the document tells it, and what of LANGUAGE.md can be seen from outside or by words. */
public final class FaceAndLanguageTest {
    private static int wrong = 0;

    private static final String[] METHODS = {
        "int write(int)", "int wipe()", "int fault()", "int street()", "int about(int)", "int house(int,int)",
        "int sight(int,int)", "int walk(int)", "int look()", "int pause()", "int lamp(int)", "int key(int)",
        "int undo()", "int best(int,boolean)", "int fewest(int)", "int keys(int,int)", "int judge(int,int)",
        "int share(int,boolean)", "int see(int,int,int,int)", "int unsee()", "int shapes(int)", "int rests(int)",
        "int chance(int,int,int,int,boolean)", "long seed(long)", "int rounds(int)", "int keep(int)",
        "int again(int)"};
    private static final String[] CONSTANTS = {"UNKNOWN", "BAD", "LATE", "FULL", "NONE"};
    private static final String[] NOT_ALLOWED = {
        "throw", "throws", "try", "catch", "finally", "synchronized", "assert", "import", "package", "->", "::",
        "protected", "volatile", "transient", "native", "var", "System", "Object", "getClass", "hashCode", "equals",
        "toString", "Exact", "Thread", "while"};

    private static void check(boolean holds, String what) {
        if (!holds) {
            wrong++;
            System.out.println(what);
        }
    }

    private static String told(Method method) {
        StringBuilder told = new StringBuilder(method.getReturnType() + " " + method.getName() + "(");
        for (Class<?> type : method.getParameterTypes()) {
            told.append(told.charAt(told.length() - 1) == '(' ? "" : ",").append(type);
        }
        return told.append(')').toString();
    }

    private static void face() {
        Class<?> face = KeyholeNews.class;
        check(face.getModifiers() == (Modifier.PUBLIC | Modifier.FINAL), "the class is not public and final");
        List<String> found = new ArrayList<>();
        List<String> names = new ArrayList<>();
        for (Method method : face.getDeclaredMethods()) {
            if (Modifier.isPublic(method.getModifiers())) {
                found.add(told(method));
                names.add(method.getName());
                check(method.getModifiers() == Modifier.PUBLIC, method + " is more than public");
            }
        }
        List<String> want = new ArrayList<>(Arrays.asList(METHODS));
        Collections.sort(want);
        Collections.sort(found);
        check(found.equals(want), "the public methods are " + found);
        for (Method method : face.getDeclaredMethods()) {
            hidden(method, method.isSynthetic() || Modifier.isPublic(method.getModifiers()));
            check(Modifier.isPublic(method.getModifiers()) || !names.contains(method.getName()),
                    method + " bears the name of a public one");
        }
        for (Field field : face.getDeclaredFields()) {
            hidden(field, Arrays.asList(CONSTANTS).contains(field.getName()));
            check(!Modifier.isStatic(field.getModifiers()) || Modifier.isFinal(field.getModifiers()),
                    field + " is static and not final");
        }
        check(face.getFields().length == CONSTANTS.length, "the public fields are " + Arrays.asList(face.getFields()));
        Constructor<?>[] makers = face.getDeclaredConstructors();
        check(makers.length == 1 && makers[0].getParameterCount() == 0 && Modifier.isPublic(makers[0].getModifiers()),
                "the constructors are " + Arrays.asList(makers));
    }

    private static void hidden(Member member, boolean mayShow) {
        check(mayShow || Modifier.isPrivate(member.getModifiers()), member + " is neither private nor of the face");
    }

    private static void insideClasses() {
        Class<?>[] inside = KeyholeNews.class.getDeclaredClasses();
        check(inside.length < 12, "there are " + inside.length + " classes inside");
        for (Class<?> one : inside) {
            check(Modifier.isStatic(one.getModifiers()), one + " is not static");
            check(!Modifier.isPublic(one.getModifiers()), one + " is public");
            check(one.getDeclaredClasses().length == 0, one + " has classes inside");
            for (Method method : one.getDeclaredMethods()) {
                check(method.getParameterCount() <= 7, method + " takes too much");
                check(Arrays.stream(METHODS).noneMatch(told -> told.contains(" " + method.getName() + "(")),
                        method + " bears the name of a public one");
            }
        }
    }

    private static void words() throws IOException {
        String told = System.getenv("KEYHOLE_SOURCE");
        Path path = Path.of(told == null ? "src/main/java/KeyholeNews.java" : told);
        String source = Files.readString(path, StandardCharsets.ISO_8859_1);
        String bare = source.replaceAll("(?s)/\\*.*?\\*/", "").replaceAll("//[^\n]*", "");
        for (String word : NOT_ALLOWED) {
            boolean letters = Character.isLetter(word.charAt(0));
            String pattern = letters ? "\\b" + word + "\\b" : Pattern.quote(word);
            check(!Pattern.compile(pattern).matcher(bare).find(), "the source has '" + word + "'");
        }
        for (int i = 0; i < source.length(); i++) {
            check(source.charAt(i) < 127, "the source has a sign above 126 at " + i);
        }
        shortMethods(bare);
    }

    private static void shortMethods(String bare) {
        String[] lines = bare.split("\n");
        Pattern head = Pattern.compile("^( {4}| {8})[a-zA-Z].*\\(.*\\) \\{$");
        for (int i = 0; i < lines.length; i++) {
            Matcher match = head.matcher(lines[i]);
            if (!match.find()) {
                continue;
            }
            int end = i;
            while (end < lines.length && !lines[end].equals(match.group(1) + "}")) {
                end++;
            }
            check(end - i < 60, "long method: " + lines[i]);
        }
    }

    public static void main(String[] args) throws IOException {
        face();
        insideClasses();
        words();
        System.out.println(wrong == 0 ? "face and language are as due" : wrong + " faults");
        if (wrong != 0) {
            System.exit(1);
        }
    }
}
