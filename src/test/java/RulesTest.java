import java.io.IOException;
import java.lang.reflect.Constructor;
import java.lang.reflect.Field;
import java.lang.reflect.Method;
import java.lang.reflect.Modifier;
import java.nio.file.Files;
import java.nio.file.Path;
import java.util.ArrayList;
import java.util.Arrays;
import java.util.List;
import java.util.Set;
import java.util.TreeSet;
import java.util.regex.Matcher;
import java.util.regex.Pattern;

/** What can be told of LANGUAGE.md's rules from the file's text and from the compiled class. */
public final class RulesTest {
    private static final Due DUE = new Due("RulesTest");
    private static final Path FILE = Path.of("src/main/java/BeesBooks.java");
    private static final String[] FACE = {
        "int account(int)", "int accounts(int,int,int)", "int mend(int,int,int)", "int of(int,int)",
        "int cell(int,int)", "int far(int,int)", "int feed(int)", "int law()", "int where(int)",
        "int sales(int,int)", "int balance(int,int)", "int winter(int,int)", "int outlasts(int,int)",
        "int order(int,int,int)", "int heat(int)", "int swarm(int,int)", "int least(int,int,int)",
        "long dance(int,int,int)", "long dances(int,int,int)", "long right(int,int)",
        "int read(int,int,int,int)", "int open(int,int)", "long pass(int,int,int)", "int mostFalse(int)",
        "int judge(int)", "int drawn(int,int,int)", "int sale(int)", "int eat(int)", "int run()",
        "int fly(int)", "int led(int)", "int image()", "int back()", "int undo()", "int redo()",
        "int body(int)", "int act(int,int,int)", "int trace(int)", "int keep(int,int)",
        "int row(int,int,int)", "int put(int,int,long)", "long element(int,int)",
        "int shift(int,int,int,int,int)", "int taken(int,int)", "int count(int)"};

    private RulesTest() {
    }

    public static void main(String[] args) throws IOException {
        face();
        insideClasses();
        List<String> lines = Files.readAllLines(FILE);
        words(lines);
        lengths(lines);
        DUE.end();
    }

    private static void face() {
        Set<String> want = new TreeSet<>(Arrays.asList(FACE));
        Set<String> got = new TreeSet<>();
        for (Method method : BeesBooks.class.getDeclaredMethods()) {
            if (Modifier.isPublic(method.getModifiers())) {
                DUE.holds(method + " is no static one", !Modifier.isStatic(method.getModifiers()));
                got.add(shape(method));
            } else {
                DUE.holds(method + " is private", Modifier.isPrivate(method.getModifiers()));
            }
        }
        DUE.holds("the face is " + want + ", not " + got, want.equals(got));
        DUE.is("constructors", BeesBooks.class.getDeclaredConstructors().length, 1);
        for (Constructor<?> constructor : BeesBooks.class.getDeclaredConstructors()) {
            DUE.holds("the constructor is public", Modifier.isPublic(constructor.getModifiers()));
        }
        List<String> constants = Arrays.asList("BAD", "NOT", "FULL", "STATE", "VOID");
        for (Field field : BeesBooks.class.getDeclaredFields()) {
            boolean isPublic = Modifier.isPublic(field.getModifiers());
            DUE.holds(field + " is a constant of the face or private",
                isPublic ? constants.contains(field.getName()) : Modifier.isPrivate(field.getModifiers()));
        }
        int modifiers = BeesBooks.class.getModifiers();
        DUE.holds("public and final", Modifier.isPublic(modifiers) && Modifier.isFinal(modifiers));
    }

    private static String shape(Method method) {
        StringBuilder shape = new StringBuilder(method.getReturnType() + " " + method.getName() + "(");
        for (Class<?> type : method.getParameterTypes()) {
            shape.append(shape.charAt(shape.length() - 1) == '(' ? "" : ",").append(type);
        }
        return shape.append(')').toString();
    }

    private static void insideClasses() {
        List<Class<?>> all = new ArrayList<>(Arrays.asList(BeesBooks.class.getDeclaredClasses()));
        DUE.holds("some twelve classes", all.size() + 1 <= 12);
        Set<String> face = new TreeSet<>();
        for (Method method : BeesBooks.class.getMethods()) {
            if (method.getDeclaringClass() == BeesBooks.class) {
                face.add(method.getName());
            }
        }
        for (Class<?> one : all) {
            DUE.holds(one + " is static", Modifier.isStatic(one.getModifiers()));
            DUE.holds(one + " is not public", !Modifier.isPublic(one.getModifiers()));
            DUE.holds(one + " holds no class", one.getDeclaredClasses().length == 0);
            for (Method method : one.getDeclaredMethods()) {
                DUE.holds(method + " bears another name than the face's", !face.contains(method.getName()));
                DUE.holds(method + " has at most seven parameters", method.getParameterCount() <= 7);
            }
        }
        all.add(BeesBooks.class);
        for (Class<?> one : all) {
            int own = 0;
            for (Field field : one.getDeclaredFields()) {
                boolean isStatic = Modifier.isStatic(field.getModifiers());
                DUE.holds(field + " is final if static", !isStatic || Modifier.isFinal(field.getModifiers()));
                own += isStatic ? 0 : 1;
            }
            DUE.holds(one + " has some twenty fields at most", own <= 20);
        }
        for (Method method : BeesBooks.class.getDeclaredMethods()) {
            boolean isPrivate = Modifier.isPrivate(method.getModifiers());
            DUE.holds(method + " bears no public name", !isPrivate || !face.contains(method.getName()));
        }
    }

    private static void words(List<String> lines) {
        Pattern outlawed = Pattern.compile(
            "\\b(throw|throws|try|catch|finally|assert|synchronized|var|record|volatile|native|"
            + "System\\.(?!arraycopy)|Thread|Random|Object|Throwable|Exception)\\b|->|::|@");
        int number = 0;
        for (String line : lines) {
            number++;
            String code = line.replaceAll("^\\s*(/\\*\\*|\\*|//).*", "");
            Matcher matcher = outlawed.matcher(code);
            DUE.holds("line " + number + " holds " + (matcher.find() ? matcher.group() : ""), !outlawed.matcher(code).find());
            DUE.holds("line " + number + " is ASCII", line.chars().allMatch(letter -> letter >= ' ' && letter < 127));
            DUE.holds("line " + number + " joins no texts by +", !code.matches(".*\"\\s*\\+.*|.*\\+\\s*\".*"));
            boolean brings = line.startsWith("import ");
            DUE.holds("line " + number + " brings in " + line, !brings || line.equals("import java.util.Arrays;"));
            DUE.holds("no package", !line.startsWith("package "));
        }
    }

    private static void lengths(List<String> lines) {
        int begin = -1;
        String end = "";
        for (int i = 0; i < lines.size(); i++) {
            String line = lines.get(i);
            if (begin < 0 && line.matches(" +[\\w \\[\\]]+\\([^;]*\\{") && !line.matches(" +(if|for|while|switch).*")) {
                begin = i;
                end = line.substring(0, line.length() - line.stripLeading().length()) + "}";
            } else if (begin >= 0 && line.equals(end)) {
                DUE.holds("at most sixty lines from line " + (begin + 1), i - begin < 60);
                begin = -1;
            }
        }
    }
}
