import java.lang.reflect.Constructor;
import java.lang.reflect.Field;
import java.lang.reflect.Method;
import java.lang.reflect.Modifier;
import java.nio.file.Files;
import java.nio.file.Path;
import java.util.ArrayList;
import java.util.Arrays;
import java.util.Collections;
import java.util.List;
import java.util.regex.Matcher;
import java.util.regex.Pattern;

/** The face of the document, and those rules of LANGUAGE.md that can be seen from names and words alone. */
public final class LanguageTest {
    private static final Path SOURCE = Path.of("src/main/java/LogRollers.java");
    /** Each method with how many arguments it takes. */
    private static final String FACE = "roller2 of2 set3 as2 log2 push5 mount2 off0 bout1 stands2 now1 seed1 ahead4 best3 light3 late3 swing4 "
            + "beats2 five3 champion1 feed2 wipe0 way0 rules1 holds5 sheet3 write3 copy5 film3 read3 image0 undo0 tear0 count1 status1";
    private static final String BANNED = "\\b(import|package|throw|throws|try|catch|synchronized|assert|static \\{|record|var)\\b|->|::";

    public static void main(String[] args) throws Exception {
        theFace();
        nothingElseIsSeen();
        namesInside();
        words();
        Check.end();
    }

    private static void theFace() {
        List<String> due = new ArrayList<>(List.of(FACE.split(" ")));
        List<String> got = new ArrayList<>();
        for (Method m : LogRollers.class.getDeclaredMethods()) {
            if (Modifier.isPublic(m.getModifiers())) {
                got.add(m.getName() + m.getParameterCount());
                boolean isWrite = m.getName().equals("write");
                Check.due("answer of " + m.getName(), 1, m.getReturnType() == (isWrite ? long.class : int.class) ? 1 : 0);
                for (int i = 0; i < m.getParameterCount(); i++) {
                    boolean isLong = isWrite && i == 2;
                    Check.due("argument of " + m.getName(), 1, m.getParameterTypes()[i] == (isLong ? long.class : int.class) ? 1 : 0);
                }
            }
        }
        Collections.sort(due);
        Collections.sort(got);
        Check.due("the face " + got, 1, due.equals(got) ? 1 : 0);
        Check.due("public and final", 1, LogRollers.class.getModifiers() == (Modifier.PUBLIC | Modifier.FINAL) ? 1 : 0);
        Constructor<?>[] constructors = LogRollers.class.getDeclaredConstructors();
        Check.due("constructors", 1, constructors.length);
        Check.due("a public constructor", 1, Modifier.isPublic(constructors[0].getModifiers()) ? 1 : 0);
    }

    private static void nothingElseIsSeen() {
        for (Field f : LogRollers.class.getDeclaredFields()) {
            Check.due("field " + f.getName() + " is private", 1, Modifier.isPrivate(f.getModifiers()) ? 1 : 0);
        }
        for (Method m : LogRollers.class.getDeclaredMethods()) {
            boolean isFine = Modifier.isPublic(m.getModifiers()) || Modifier.isPrivate(m.getModifiers()) || m.isSynthetic();
            Check.due("method " + m.getName() + " is public or private", 1, isFine ? 1 : 0);
        }
        Class<?>[] inside = LogRollers.class.getDeclaredClasses();
        Check.due("at most twelve classes", 1, inside.length < 12 ? 1 : 0);
        for (Class<?> c : inside) {
            Check.due("class " + c.getName() + " is static", 1, Modifier.isStatic(c.getModifiers()) ? 1 : 0);
        }
    }

    private static void namesInside() {
        List<String> face = Arrays.stream(FACE.split(" ")).map(s -> s.substring(0, s.length() - 1)).toList();
        List<Class<?>> all = new ArrayList<>(List.of(LogRollers.class.getDeclaredClasses()));
        all.add(LogRollers.class);
        for (Class<?> c : all) {
            int fields = 0;
            for (Field f : c.getDeclaredFields()) {
                boolean isStatic = Modifier.isStatic(f.getModifiers());
                Check.due("static field " + f.getName() + " is final", 1, !isStatic || Modifier.isFinal(f.getModifiers()) ? 1 : 0);
                fields += isStatic ? 0 : 1;
            }
            Check.due("fields of " + c.getName(), 1, fields <= 20 ? 1 : 0);
            for (Method m : c.getDeclaredMethods()) {
                boolean isOfTheFace = c == LogRollers.class && Modifier.isPublic(m.getModifiers());
                Check.due("name of " + m, 1, isOfTheFace || !face.contains(m.getName()) ? 1 : 0);
                Check.due("arguments of " + m, 1, m.getParameterCount() <= 7 ? 1 : 0);
            }
        }
    }

    private static void words() throws Exception {
        String code = Files.readString(SOURCE).replaceAll("(?s)/\\*.*?\\*/", " ").replaceAll("//[^\n]*", " ");
        Matcher m = Pattern.compile(BANNED).matcher(code);
        while (m.find()) {
            Check.due("the word " + m.group(), 0, 1);
        }
        Check.due("signs are 1 to 127", 1, code.chars().allMatch(c -> c > 0 && c < 128) ? 1 : 0);
    }
}
