import java.io.IOException;
import java.lang.reflect.Constructor;
import java.lang.reflect.Field;
import java.lang.reflect.Method;
import java.lang.reflect.Modifier;
import java.nio.charset.StandardCharsets;
import java.nio.file.Files;
import java.nio.file.Path;
import java.util.ArrayList;
import java.util.Arrays;
import java.util.List;
import java.util.Set;
import java.util.TreeSet;
import java.util.regex.Matcher;
import java.util.regex.Pattern;

/** The face of the document, and those rules of LANGUAGE.md that can be read off the file and the class. */
public final class LanguageTest {
    private static final Set<String> LIBRARY = Set.of("Arrays.fill", "System.arraycopy", "Math.min", "Math.max",
            "Math.abs", "Integer.bitCount", "java.util");
    private static final Set<String> THROWN = Set.of("IllegalStateException", "IllegalArgumentException",
            "NoSuchElementException");
    private static final String[] FORBIDDEN = {"->", "::", "@", "finally", "synchronized", "assert", "catch",
        "try", "goto", "import static", "protected", "Object", "double", "float", "volatile", "native", "System.out",
        "toString", "hashCode", "equals", "Thread", "Random", "null", "var "};
    private static final String[] FACE = {
        "int many(int)IllegalArgumentException",
        "int example(int,int,int,int)IllegalArgumentException,IllegalStateException",
        "int drop(int)NoSuchElementException",
        "boolean part(int,boolean)IllegalArgumentException",
        "boolean constant(int)IllegalArgumentException,IllegalStateException",
        "int constants()",
        "int budget(int)IllegalArgumentException",
        "int grow(boolean)",
        "int grown(boolean,int)NoSuchElementException",
        "int kept(boolean,int,int)NoSuchElementException",
        "int output(boolean,int,int)NoSuchElementException",
        "int value(boolean,int,int,int,int)NoSuchElementException,IllegalArgumentException",
        "int write(boolean,int)NoSuchElementException",
        "int octet(int)",
        "int testOf(int)IllegalArgumentException",
        "int joins(int,int,int)IllegalArgumentException,NoSuchElementException",
        "int ofSize(boolean,int)",
        "int unlike(boolean,int,int)NoSuchElementException",
        "int uses(boolean,int,int)NoSuchElementException,IllegalArgumentException",
        "int far(int)NoSuchElementException",
        "int nearest()",
        "int writeMerged(boolean,int)NoSuchElementException",
        "int mergedApart(boolean,int,int)NoSuchElementException",
        "int differs(boolean,int,int)NoSuchElementException",
        "int solve(int)IllegalArgumentException,IllegalStateException",
        "int make(int)IllegalArgumentException,IllegalStateException",
        "int solved(int)IllegalStateException,NoSuchElementException",
        "int comes(int,int,int)IllegalStateException,IllegalArgumentException",
        "int writeSolved()IllegalStateException",
        "int leaf(int)IllegalStateException,NoSuchElementException",
        "int apart(int,int)IllegalStateException,NoSuchElementException",
        "int without(int,int)IllegalArgumentException,IllegalStateException",
        "int ties(int)IllegalArgumentException,IllegalStateException",
        "int needed()IllegalStateException",
        "int solvedUses(int)IllegalStateException,IllegalArgumentException",
        "int way(int,int,int,int)IllegalStateException,IllegalArgumentException",
        "boolean isIdle(int)IllegalStateException,NoSuchElementException",
        "int fits(int,int)IllegalArgumentException,NoSuchElementException",
        "int fewest()",
        "int splits(int,int)IllegalArgumentException",
        "int count(int)",
        "int told(int,int)NoSuchElementException",
        "int constantAt(int)NoSuchElementException"};

    private static int wrong;

    public static void main(String[] args) throws IOException, ReflectiveOperationException {
        String source = Files.readString(Path.of("src/main/java/PartMaker.java"), StandardCharsets.UTF_8);
        face();
        hold(PartMaker.class.getField("NONE").getInt(null) == -1, "NONE is -1");
        insideClasses();
        staticFields();
        types();
        words(source);
        lengths(source);
        System.out.println(wrong == 0 ? "the class keeps to its face and its language" : wrong + " rules are broken");
        if (wrong != 0) {
            System.exit(1);
        }
    }

    private static void hold(boolean holds, String rule) {
        if (!holds) {
            wrong++;
            System.out.println("not so: " + rule);
        }
    }

    private static String signature(Method method) {
        List<String> types = new ArrayList<>();
        for (Class<?> type : method.getParameterTypes()) {
            types.add(type.getSimpleName());
        }
        List<String> thrown = new ArrayList<>();
        for (Class<?> type : method.getExceptionTypes()) {
            thrown.add(type.getSimpleName());
        }
        return method.getReturnType().getSimpleName() + " " + method.getName() + "(" + String.join(",", types)
                + ")" + String.join(",", thrown);
    }

    private static void face() {
        hold(PartMaker.class.getModifiers() == (Modifier.PUBLIC | Modifier.FINAL), "PartMaker is public and final");
        Set<String> shown = new TreeSet<>();
        Set<String> names = new TreeSet<>();
        for (Method method : PartMaker.class.getDeclaredMethods()) {
            if (Modifier.isPublic(method.getModifiers())) {
                shown.add(signature(method));
                names.add(method.getName());
            } else {
                hold(Modifier.isPrivate(method.getModifiers()), method + " is private");
            }
        }
        hold(shown.equals(new TreeSet<>(Arrays.asList(FACE))), "the face is the document's: " + shown);
        for (Class<?> type : allClasses()) {
            for (Method method : type.getDeclaredMethods()) {
                boolean isOfFace = type == PartMaker.class && Modifier.isPublic(method.getModifiers());
                hold(isOfFace || !names.contains(method.getName()), method + " has a name of its own");
            }
        }
        Constructor<?>[] constructors = PartMaker.class.getDeclaredConstructors();
        hold(constructors.length == 1 && constructors[0].getModifiers() == Modifier.PUBLIC, "one public constructor");
        for (Field field : PartMaker.class.getDeclaredFields()) {
            hold(Modifier.isPrivate(field.getModifiers()) || field.getName().equals("NONE"), field + " is private");
        }
    }

    private static List<Class<?>> allClasses() {
        List<Class<?>> all = new ArrayList<>(List.of(PartMaker.class));
        all.addAll(Arrays.asList(PartMaker.class.getDeclaredClasses()));
        return all;
    }

    private static void insideClasses() {
        hold(allClasses().size() <= 12, "at most some twelve classes");
        for (Class<?> type : allClasses()) {
            hold(type == PartMaker.class || Modifier.isStatic(type.getModifiers()), type + " is static");
            hold(type == PartMaker.class || !Modifier.isPublic(type.getModifiers()), type + " is not public");
            int fields = 0;
            for (Field field : type.getDeclaredFields()) {
                fields += Modifier.isStatic(field.getModifiers()) ? 0 : 1;
            }
            hold(fields <= 20, type + " has at most some twenty fields, but " + fields);
            for (Method method : type.getDeclaredMethods()) {
                hold(method.getParameterCount() <= 7, method + " takes at most seven parameters");
            }
        }
    }

    private static void staticFields() {
        Set<Class<?>> fine = Set.of(int.class, long.class, boolean.class, char.class, String.class, int[].class,
                long[].class, char[].class, byte[].class);
        for (Class<?> type : allClasses()) {
            for (Field field : type.getDeclaredFields()) {
                if (Modifier.isStatic(field.getModifiers())) {
                    hold(Modifier.isFinal(field.getModifiers()) && fine.contains(field.getType()),
                            field + " is a constant");
                }
            }
        }
    }

    /** Of all rule 3 leaves, those that the class needs. */
    private static void types() {
        List<Class<?>> fine = allClasses();
        fine.addAll(List.of(void.class, int.class, long.class, boolean.class, char.class, byte.class, String.class,
                int[].class, long[].class, char[].class, byte[].class, int[][].class));
        for (Class<?> type : allClasses()) {
            for (Field field : type.getDeclaredFields()) {
                hold(fine.contains(field.getType()), field + " is of a type that may be used");
            }
            for (Method method : type.getDeclaredMethods()) {
                hold(fine.contains(method.getReturnType()) && fine.containsAll(Arrays.asList(method.getParameterTypes())),
                        method + " has types that may be used");
            }
        }
    }

    private static void words(String source) {
        hold(source.chars().allMatch(sign -> sign == '\n' || sign >= ' ' && sign < 127), "plain signs alone");
        String code = source.replaceAll("(?s)/\\*.*?\\*/", "").replaceAll("//[^\n]*", "");
        String bare = code.replaceAll("\"[^\"]*\"", "\"\"");
        for (String word : FORBIDDEN) {
            boolean isWord = Character.isLetter(word.charAt(0));
            Pattern pattern = Pattern.compile(isWord ? "\\b" + Pattern.quote(word) + "(?!\\w)" : Pattern.quote(word));
            hold(!pattern.matcher(bare).find(), "no " + word);
        }
        hold(!Pattern.compile("\\bstatic\\s*\\{").matcher(bare).find(), "no static initialiser block");
        Matcher library = Pattern.compile("\\b(Math|Integer|Long|Arrays|System|String|Character|java)\\.\\w+").matcher(bare);
        while (library.find()) {
            hold(LIBRARY.contains(library.group()), "the library has " + library.group());
        }
        Matcher imported = Pattern.compile("import ([\\w.]+);").matcher(bare);
        while (imported.find()) {
            hold(Set.of("java.util.Arrays", "java.util.NoSuchElementException").contains(imported.group(1)),
                    "imported is " + imported.group(1));
        }
        Matcher thrown = Pattern.compile("throw new (\\w+)\\(\"[^\"]+\"\\)").matcher(code);
        int found = 0;
        while (thrown.find()) {
            found++;
            hold(THROWN.contains(thrown.group(1)), "thrown is " + thrown.group(1));
        }
        Matcher throwing = Pattern.compile("\\bthrow\\b").matcher(bare);
        while (throwing.find()) {
            found--;
        }
        hold(found == 0, "each throw is of a new exception with a written text");
    }

    /** Methods are what opens at one or two steps of four blanks and closes there. */
    private static void lengths(String source) {
        String[] lines = source.split("\n");
        int opened = -1;
        String indent = "";
        for (int i = 0; i < lines.length; i++) {
            hold(lines[i].length() <= 120, "line " + (i + 1) + " is short");
            Matcher head = Pattern.compile("^( {4}| {8})\\w.*\\) .*\\{$|^( {4}| {8})\\w.*\\)\\s*\\{$").matcher(lines[i]);
            if (opened < 0 && head.find() && !lines[i].contains("class ")) {
                opened = i;
                indent = lines[i].substring(0, lines[i].length() - lines[i].stripLeading().length());
            }
            if (opened >= 0 && lines[i].equals(indent + "}")) {
                hold(i - opened < 60, "the method at line " + (opened + 1) + " has below sixty lines");
                opened = -1;
            }
        }
    }
}
