import java.io.IOException;
import java.lang.reflect.Constructor;
import java.lang.reflect.Field;
import java.lang.reflect.Method;
import java.lang.reflect.Modifier;
import java.nio.file.Files;
import java.nio.file.Path;
import java.util.ArrayList;
import java.util.List;
import java.util.Set;
import java.util.TreeSet;
import java.util.regex.Matcher;
import java.util.regex.Pattern;

/** The public face, and those rules of LANGUAGE.md that can be seen from the class or from its text. */
public final class FaceAndLanguage {
    private static final String FACE = "int one(int,int,int) int of(int,int) int cheer(int,int) int swap(int,int) int again(int)"
        + " int down(int) int row(int,int,int) int feed(int) int city() int told(int) int pass(int) int on(int,int)"
        + " int turn(int) int see(int,int,boolean) int can(int,int) long odds(int,int) long mean(int) int plan(int,int)"
        + " int ends(int) int book(int,int) int looked() int judge(int,int) int image() int undo() int act(int,int,int)"
        + " int trace(int) int taken(int,int) int count(int) int tape(int,int,int) int item(int,int,long)"
        + " long read(int,int) int shift(int,int,int,int,int)";
    private static final String[] BANNED = {"\\b(throw|throws|try|catch|synchronized|assert|import|package|double|float)\\b",
        "->", "::", "Exact\\b", "\\b(equals|hashCode|toString)\\s*\\(\\s*\\w* ?\\w*\\)\\s*\\{", "\\bwhile\\s*\\(true\\)",
        "for\\s*\\(\\s*;", "\\bstatic\\s*\\{", "\\b(Thread|System\\.(?!arraycopy)|Random|Object)\\b"};
    /** What the class takes from the library; LANGUAGE.md lists more. */
    private static final Set<String> LIBRARY = Set.of("Math.min", "Math.max", "Integer.bitCount", "System.arraycopy", "Long.MIN_VALUE");
    private static int wrong = 0;

    private static void want(boolean holds, String rule) {
        if (!holds) {
            wrong++;
            System.out.println("broken: " + rule);
        }
    }

    private static String parameters(Class<?>[] types) {
        StringBuilder all = new StringBuilder("(");
        for (int i = 0; i < types.length; i++) {
            all.append(i == 0 ? "" : ",").append(types[i].getSimpleName());
        }
        return all.append(")").toString();
    }

    private static void face() {
        Set<String> due = new TreeSet<>();
        Matcher matcher = Pattern.compile("(\\w+ \\w+\\([^)]*\\))").matcher(FACE);
        while (matcher.find()) {
            due.add(matcher.group(1));
        }
        Set<String> found = new TreeSet<>();
        for (Method method : LaughingGate.class.getDeclaredMethods()) {
            if (!Modifier.isPrivate(method.getModifiers())) {
                want(method.getModifiers() == Modifier.PUBLIC, method + " is public alone");
                found.add(method.getReturnType() + " " + method.getName() + parameters(method.getParameterTypes()));
            }
        }
        want(due.equals(found), "the methods are " + due + ", not " + found);
        want(Modifier.isFinal(LaughingGate.class.getModifiers()), "the class is final");
        Constructor<?>[] constructors = LaughingGate.class.getDeclaredConstructors();
        want(constructors.length == 1 && constructors[0].getModifiers() == Modifier.PUBLIC
            && constructors[0].getParameterCount() == 0, "the constructor");
        int constants = 0;
        for (Field field : LaughingGate.class.getDeclaredFields()) {
            if (!Modifier.isPrivate(field.getModifiers())) {
                constants++;
                want("NONE BAD STATE FULL NO".contains(field.getName()), field + " is of the face");
            }
        }
        want(constants == 5, "five constants");
    }

    private static void members(List<Class<?>> classes) {
        Set<String> publicNames = new TreeSet<>();
        for (Method method : LaughingGate.class.getMethods()) {
            publicNames.add(method.getName());
        }
        want(classes.size() <= 12, "some twelve classes");
        for (Class<?> one : classes) {
            int fields = 0;
            for (Field field : one.getDeclaredFields()) {
                boolean isStatic = Modifier.isStatic(field.getModifiers());
                want(!isStatic || Modifier.isFinal(field.getModifiers()), field + " is final");
                fields += isStatic ? 0 : 1;
            }
            want(fields <= 20, one + " has some twenty fields");
            want(one == LaughingGate.class || Modifier.isStatic(one.getModifiers()) && !Modifier.isPublic(one.getModifiers()),
                one + " is static and not public");
            for (Method method : one.getDeclaredMethods()) {
                want(method.getParameterCount() <= 7, method + " has seven parameters at most");
                want(one == LaughingGate.class && Modifier.isPublic(method.getModifiers())
                    || !publicNames.contains(method.getName()), method + " bears no public name");
            }
        }
    }

    private static void text() throws IOException {
        String raw = Files.readString(Path.of("src/main/java/LaughingGate.java"));
        want(raw.chars().allMatch(sign -> sign == '\n' || sign >= 32 && sign < 127), "signs 1 to 127 alone");
        String code = raw.replaceAll("(?s)/\\*.*?\\*/", "").replaceAll("//[^\n]*", "").replaceAll("\"[^\"\n]*\"", "\"\"");
        for (String banned : BANNED) {
            Matcher matcher = Pattern.compile(banned).matcher(code);
            want(!matcher.find(), "no " + banned);
        }
        Matcher taken = Pattern.compile("\\b(?:Math|Integer|Long|String|Character|Byte|Short|Boolean|Arrays|List|System)\\.\\w+").matcher(code);
        while (taken.find()) {
            want(LIBRARY.contains(taken.group()), taken.group() + " is not of the library that is used");
        }
        want(!code.contains("\"\" +") && !code.contains("+ \"\""), "texts are not joined by +");
        int start = 0;
        int line = 0;
        for (String text : raw.split("\n")) {
            line++;
            if (text.matches("    (    )?\\w[^=]*\\(.*\\) \\{")) {
                start = line;
            }
            if (text.matches("    (    )?\\}")) {
                want(start == 0 || line - start < 60, "the method at line " + start + " is short");
                start = 0;
            }
        }
        // All calls of a run live in one room, so that only fields and constructors make anything.
        for (String text : code.split("\n")) {
            boolean isMade = text.matches("\\s+(private )?final .* = new .*")
                || text.matches("\\s+(cities\\[i\\]|tapes\\[i\\]|first|second|third) = new .*");
            want(isMade || !text.contains(" new "), "nothing is made by a call: " + text.trim());
        }
    }

    /** The calls stand in the document's order, with the words that the interface says ahead of some. */
    private static void order() throws IOException {
        Path document = Path.of("../shared/DOC.md");
        if (!Files.exists(document)) {
            return;
        }
        List<String> due = new ArrayList<>();
        Matcher groups = Pattern.compile("Ahead of the calls (.*) the interface says: (---- .*)\\.").matcher(Files.readString(document));
        while (groups.find()) {
            due.add(groups.group(2));
            Matcher names = Pattern.compile("`(\\w+)`").matcher(groups.group(1));
            while (names.find()) {
                due.add(names.group(1));
            }
        }
        List<String> found = new ArrayList<>();
        Matcher lines = Pattern.compile("(?m)^    (?:// (---- .*)|public (?:int|long) (\\w+)\\(.*)$")
            .matcher(Files.readString(Path.of("src/main/java/LaughingGate.java")));
        while (lines.find()) {
            found.add(lines.group(1) == null ? lines.group(2) : lines.group(1));
        }
        // Behind the last call there may be words of the class's own.
        want(due.size() > 32 && found.size() >= due.size() && found.subList(0, due.size()).equals(due),
            "the calls stand as the document says: " + due + ", not " + found);
    }

    public static void main(String[] args) throws IOException {
        face();
        List<Class<?>> classes = new ArrayList<>(List.of(LaughingGate.class.getDeclaredClasses()));
        classes.add(LaughingGate.class);
        members(classes);
        text();
        order();
        System.out.println(wrong == 0 ? "the face and the language are kept" : wrong + " rules are broken");
        if (wrong != 0) {
            System.exit(1);
        }
    }
}
