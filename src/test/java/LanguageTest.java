import java.io.IOException;
import java.lang.reflect.Constructor;
import java.lang.reflect.Field;
import java.lang.reflect.Method;
import java.lang.reflect.Modifier;
import java.nio.file.Files;
import java.nio.file.Path;
import java.util.Arrays;
import java.util.Set;
import java.util.TreeSet;
import java.util.regex.Matcher;
import java.util.regex.Pattern;

/** The face of the class, and those rules of LANGUAGE.md that can be seen in its text. */
public final class LanguageTest {
    private static final String FACE = "sizes variable act edge clear lay fold why laid where needs best laying run"
            + " worked held value plain result about";
    private static final String BANNED = "\\b(throw|throws|try|catch|synchronized|assert|protected|package|Object|var"
            + "|System\\.out|System\\.err|\\w+Exact|Random|Thread)\\b|->|::|\\bimport (?!java\\.util\\.Arrays;)";
    private static int wrong = 0;

    private static void due(boolean holds, String what) {
        if (!holds) {
            wrong++;
            System.out.println(what);
        }
    }

    public static void main(String[] args) throws IOException {
        face();
        members();
        text(Files.readString(Path.of("src/main/java/PulseBoard.java")));
        System.out.println(wrong == 0 ? "the rules hold" : wrong + " rules are broken");
        if (wrong != 0) System.exit(1);
    }

    private static void face() {
        Class<?> board = PulseBoard.class;
        due(Modifier.isFinal(board.getModifiers()) && Modifier.isPublic(board.getModifiers()), "not public and final");
        Set<String> open = new TreeSet<>();
        Set<String> hidden = new TreeSet<>();
        for (Method method : board.getDeclaredMethods()) {
            boolean isPublic = Modifier.isPublic(method.getModifiers());
            due(isPublic || Modifier.isPrivate(method.getModifiers()), "neither public nor private: " + method);
            (isPublic ? open : hidden).add(method.getName());
        }
        due(open.equals(new TreeSet<>(Arrays.asList(FACE.split(" ")))), "another face: " + open);
        hidden.retainAll(open);
        due(hidden.isEmpty(), "private methods with public names: " + hidden);
        due(board.getDeclaredConstructors().length == 1, "more than one constructor");
        for (Constructor<?> made : board.getDeclaredConstructors()) {
            due(Modifier.isPublic(made.getModifiers()) && made.getParameterCount() == 0, "another constructor: " + made);
        }
    }

    private static void members() {
        for (Field field : PulseBoard.class.getDeclaredFields()) {
            int kind = field.getModifiers();
            due(Modifier.isPrivate(kind) || field.getName().equals("NONE"), "an open field: " + field);
        }
        due(PulseBoard.class.getDeclaredClasses().length <= 11, "too many classes");
        for (Class<?> inside : PulseBoard.class.getDeclaredClasses()) {
            due(Modifier.isStatic(inside.getModifiers()), "not static: " + inside);
            due(inside.getDeclaredFields().length <= 20, "too many fields: " + inside);
            for (Field field : inside.getDeclaredFields()) {
                int kind = field.getModifiers();
                due(!Modifier.isStatic(kind) || Modifier.isFinal(kind), "static and not final: " + field);
            }
            for (Method method : inside.getDeclaredMethods()) {
                due(method.getParameterCount() <= 7, "too many parameters: " + method);
            }
        }
    }

    private static void text(String text) {
        String code = text.replaceAll("(?s)/\\*.*?\\*/", " ").replaceAll("//[^\n]*", " ");
        Matcher found = Pattern.compile(BANNED).matcher(code);
        while (found.find()) due(false, "not in the language: " + found.group());
        due(text.chars().allMatch(sign -> sign < 128), "a sign above 127");
        Matcher method = Pattern.compile("(?ms)^( +)[^\n;=]*\\([^\n;]*\\) \\{\n(.*?)^\\1\\}").matcher(text);
        while (method.find()) {
            due(method.group(2).lines().count() <= 60, "a long method: " + method.group().lines().findFirst().orElse(""));
        }
    }
}
