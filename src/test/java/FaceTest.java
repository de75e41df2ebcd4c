import java.io.IOException;
import java.lang.reflect.Field;
import java.lang.reflect.Method;
import java.lang.reflect.Modifier;
import java.nio.file.Files;
import java.nio.file.Path;
import java.util.Arrays;
import java.util.List;
import java.util.Set;
import java.util.TreeSet;
import java.util.regex.Matcher;
import java.util.regex.Pattern;

/** The public face, and what can be seen of LANGUAGE.md's rules from the class and its text: `FaceTest class-file`. */
public final class FaceTest {
    private static final Due DUE = new Due();

    private static final String FACE = """
            int set(int,int,int)
            int user(int,int,int)
            int told(int,int)
            int feed(int)
            int text()
            int force(int)
            int has(int,int)
            int worth(int)
            int share(int)
            long mean(int,int)
            int best(int)
            int settle()
            int cut(int)
            int change(int)
            int forTown(int,int)
            int heaviest(int)
            int tells(int,int,int)
            int film(int,int,int)
            int drawn(int)
            long chance(int,int,int)
            int image()
            int back()
            int count(int)
            int sheet(int,int,int)
            int cell(int,int,int)
            int copy(int,int,int,int,int)
            int users(int,int,int,int)
            int taken(int,int)
            """;

    public static void main(String[] args) throws IOException {
        face();
        inside();
        if (args.length > 0) {
            text(Files.readString(Path.of(args[0])));
        }
        DUE.end("FaceTest");
    }

    private static String shape(Method m) {
        List<String> types = Arrays.stream(m.getParameterTypes()).map(Class::getName).toList();
        return m.getReturnType().getName() + " " + m.getName() + "(" + String.join(",", types) + ")";
    }

    private static void face() {
        DUE.about("the face");
        Class<?> c = OneWinter.class;
        DUE.isTrue("public and final", Modifier.isPublic(c.getModifiers()) && Modifier.isFinal(c.getModifiers()));
        DUE.is("constructors", c.getDeclaredConstructors().length, 1);
        DUE.isTrue("a public one", Modifier.isPublic(c.getDeclaredConstructors()[0].getModifiers()));
        Set<String> seen = new TreeSet<>();
        Set<String> names = new TreeSet<>();
        for (Method m : c.getDeclaredMethods()) {
            if (!Modifier.isPrivate(m.getModifiers())) {
                seen.add(shape(m));
                names.add(m.getName());
                DUE.isTrue("public, not static: " + m, m.getModifiers() == Modifier.PUBLIC);
            }
        }
        DUE.isTrue("the methods are " + seen, seen.equals(new TreeSet<>(List.of(FACE.strip().split("\n")))));
        for (Method m : c.getDeclaredMethods()) {
            DUE.isTrue("named as a public one: " + m, !Modifier.isPrivate(m.getModifiers()) || !names.contains(m.getName()));
        }
        Set<String> fields = new TreeSet<>();
        for (Field f : c.getDeclaredFields()) {
            if (!Modifier.isPrivate(f.getModifiers())) {
                fields.add(f.getType() + " " + f.getName());
                DUE.isTrue("a constant: " + f, f.getModifiers() == (Modifier.PUBLIC | Modifier.STATIC | Modifier.FINAL));
            }
        }
        DUE.isTrue("the fields are " + fields, fields.equals(Set.of("int NONE", "int BAD", "int STATE", "int FULL", "long NO")));
        DUE.is("NONE", OneWinter.NONE, -1);
        DUE.is("BAD", OneWinter.BAD, -2);
        DUE.is("STATE", OneWinter.STATE, -3);
        DUE.is("FULL", OneWinter.FULL, -4);
        DUE.is("NO", OneWinter.NO, -4611686018427387904L);
    }

    private static void inside() {
        DUE.about("classes inside");
        Class<?>[] all = OneWinter.class.getDeclaredClasses();
        DUE.isTrue("some twelve at most", all.length < 12);
        for (Class<?> c : all) {
            DUE.isTrue("static: " + c, Modifier.isStatic(c.getModifiers()));
            DUE.isTrue("neither public nor protected: " + c, (c.getModifiers() & (Modifier.PUBLIC | Modifier.PROTECTED)) == 0);
            DUE.is("classes inside " + c, c.getDeclaredClasses().length, 0);
            members(c);
        }
        members(OneWinter.class);
    }

    private static void members(Class<?> c) {
        int own = 0;
        for (Field f : c.getDeclaredFields()) {
            boolean fixed = Modifier.isStatic(f.getModifiers());
            own += fixed ? 0 : 1;
            DUE.isTrue("static, but not final: " + f, !fixed || Modifier.isFinal(f.getModifiers()));
        }
        DUE.isTrue("some twenty fields at most: " + c, own <= 20);
        for (Method m : c.getDeclaredMethods()) {
            DUE.isTrue("seven parameters at most: " + m, m.getParameterCount() <= 7);
        }
    }

    private static void text(String all) {
        DUE.about("LANGUAGE.md");
        String code = all.replaceAll("(?s)/\\*.*?\\*/", "").replaceAll("//[^\n]*", "").replaceAll("\"[^\"\n]*\"", "\"\"");
        for (String word : List.of("throw", "throws", "try", "catch", "synchronized", "assert", "package", "import",
                "Exception", "Object", "equals", "hashCode", "toString", "lambda", "yield", "var", "record", "extends")) {
            DUE.isTrue("the word " + word, !Pattern.compile("\\b" + word + "\\b").matcher(code).find());
        }
        DUE.isTrue("a lambda or a method reference", !code.contains("->") && !code.contains("::"));
        DUE.isTrue("a remainder of the library", !Pattern.compile("Exact\\b|\\bSystem\\.(?!arraycopy\\b)").matcher(code).find());
        Matcher library = Pattern.compile("\\b(Math|Integer|Long|System)\\.(\\w+)").matcher(code);
        while (library.find()) {
            DUE.isTrue("from the library: " + library.group(), List.of("Math.max", "Math.min", "Math.abs",
                    "Integer.bitCount", "System.arraycopy").contains(library.group()));
        }
        methods(all);
    }

    // A method begins at 4 or 8 blanks and ends with a brace that stands as far.
    private static void methods(String all) {
        int began = 0;
        String blanks = "";
        int line = 0;
        for (String s : all.split("\n")) {
            line++;
            Matcher head = Pattern.compile("^( {4}| {8})[a-zA-Z].*\\) \\{$").matcher(s);
            if (head.matches() && !s.contains(" class ") && !Pattern.compile("^ *(if|for|switch|while)\\b").matcher(s).find()) {
                began = line;
                blanks = head.group(1);
            }
            if (began > 0 && s.equals(blanks + "}")) {
                DUE.isTrue("a method of over sixty lines ends at " + line, line - began < 60);
                began = 0;
            }
        }
    }
}
