import java.io.IOException;
import java.lang.reflect.Constructor;
import java.lang.reflect.Field;
import java.lang.reflect.Method;
import java.lang.reflect.Modifier;
import java.nio.file.Files;
import java.nio.file.Path;
import java.util.Arrays;
import java.util.Set;
import java.util.TreeSet;
import java.util.regex.Matcher;
import java.util.regex.Pattern;

/** The face is that of the document, and the source has nothing that LANGUAGE.md plainly rules out. */
public final class FaceTest {
    private static final Path SOURCE = Path.of("src/main/java/LaneNets.java");
    private static final String[] FACE = {
        "int lanes(int)", "int comparer(int,int,int)", "int cut(int)", "int change(int,int)",
        "int turnSwitch(int,boolean)", "int as(int,int)", "int of(int,int)", "int rounds()",
        "int crate(int,int,int)", "int put(int,int,long)", "long load(int,int)", "int copy(int,int,int,int,int)",
        "int run(int)", "int rises(int)", "int order(int,int,int)", "int out(int)", "int sorts()",
        "int fails(boolean)", "int merges(int)", "int idle(int)", "int drop()", "int turn()", "int mirror()",
        "int missing()", "int next(int)", "int bears()", "int weak(int)", "int keep(int)", "int bring(int)",
        "int follow(int)", "int unlike(int)", "int tell(int)", "int would()", "int undo()", "int told(int)"
    };
    private static final String[] RULED_OUT = {
        "throw", "throws", "try", "catch", "synchronized", "assert", "float", "double", "import", "package",
        "protected", "volatile", "transient", "native", "Object", "equals", "hashCode", "toString", "->", "::"
    };

    private static int wrong = 0;

    private static void due(String what, boolean holds) {
        if (!holds) {
            wrong++;
            System.out.println("not as due: " + what);
        }
    }

    public static void main(String[] args) throws IOException {
        methods();
        othersArePrivate();
        nestedClasses();
        String source = Files.readString(SOURCE);
        words(withoutTexts(source));
        signs(source);
        methodsAreShort(source);
        System.out.println(wrong == 0 ? "the face is as due" : wrong + " not as due");
        if (wrong != 0) {
            System.exit(1);
        }
    }

    private static String signature(Method method) {
        StringBuilder text = new StringBuilder();
        text.append(method.getReturnType().getName()).append(' ').append(method.getName()).append('(');
        for (Class<?> type : method.getParameterTypes()) {
            text.append(text.charAt(text.length() - 1) == '(' ? "" : ",").append(type.getName());
        }
        return text.append(')').toString();
    }

    private static void methods() {
        Set<String> found = new TreeSet<>();
        for (Method method : LaneNets.class.getDeclaredMethods()) {
            if (Modifier.isPublic(method.getModifiers())) {
                due(method + " is static", !Modifier.isStatic(method.getModifiers()));
                found.add(signature(method));
            }
        }
        due("public methods " + found, found.equals(new TreeSet<>(Arrays.asList(FACE))));
        Constructor<?>[] constructors = LaneNets.class.getDeclaredConstructors();
        due("one constructor", constructors.length == 1 && constructors[0].getParameterCount() == 0
            && Modifier.isPublic(constructors[0].getModifiers()));
        due("public and final", (LaneNets.class.getModifiers() & (Modifier.PUBLIC | Modifier.FINAL))
            == (Modifier.PUBLIC | Modifier.FINAL));
    }

    private static void othersArePrivate() {
        Set<String> names = new TreeSet<>();
        for (String signature : FACE) {
            names.add(signature.substring(signature.indexOf(' ') + 1, signature.indexOf('(')));
        }
        for (Method method : LaneNets.class.getDeclaredMethods()) {
            if (!Modifier.isPublic(method.getModifiers())) {
                due(method + " is private", Modifier.isPrivate(method.getModifiers()));
                due(method + " bears a public name", !names.contains(method.getName()));
            }
        }
        for (Class<?> nested : LaneNets.class.getDeclaredClasses()) {
            for (Method method : nested.getDeclaredMethods()) {
                due(method + " bears a public name", !names.contains(method.getName()));
            }
        }
        for (Field field : LaneNets.class.getDeclaredFields()) {
            due(field + " is private", Modifier.isPrivate(field.getModifiers()));
        }
    }

    private static void nestedClasses() {
        Class<?>[] nested = LaneNets.class.getDeclaredClasses();
        due("at most twelve classes", nested.length < 12);
        fieldsOf(LaneNets.class);
        typesOf(LaneNets.class);
        for (Class<?> one : nested) {
            due(one + " is static", Modifier.isStatic(one.getModifiers()));
            due(one + " is not public or protected",
                (one.getModifiers() & (Modifier.PUBLIC | Modifier.PROTECTED)) == 0);
            fieldsOf(one);
            typesOf(one);
        }
    }

    private static void fieldsOf(Class<?> one) {
        int fields = 0;
        for (Field field : one.getDeclaredFields()) {
            if (Modifier.isStatic(field.getModifiers())) {
                due(field + " is final", Modifier.isFinal(field.getModifiers()));
            } else {
                fields++;
            }
        }
        due(one + " has at most twenty fields", fields <= 20);
        for (Method method : one.getDeclaredMethods()) {
            due(method + " takes at most seven", method.getParameterCount() <= 7);
        }
    }

    /** Rule 5: constants, and arrays of int, long, char or byte. Rule 3: one dimension, own classes. */
    private static void typesOf(Class<?> one) {
        for (Field field : one.getDeclaredFields()) {
            Class<?> type = field.getType();
            Class<?> part = type.isArray() ? type.getComponentType() : type;
            if (Modifier.isStatic(field.getModifiers())) {
                due(field + " is a constant", part.isPrimitive() && part != float.class && part != double.class);
            } else {
                due(field + " is of a type that is allowed", isAllowed(type));
            }
        }
        for (Method method : one.getDeclaredMethods()) {
            due(method + " answers a type that is allowed", isAllowed(method.getReturnType()));
            for (Class<?> type : method.getParameterTypes()) {
                due(method + " takes a type that is allowed", isAllowed(type));
            }
        }
    }

    private static boolean isAllowed(Class<?> type) {
        Class<?> part = type.isArray() ? type.getComponentType() : type;
        return part.isPrimitive() || part.getNestHost() == LaneNets.class;
    }

    private static void signs(String source) {
        for (int i = 0; i < source.length(); i++) {
            char sign = source.charAt(i);
            due("sign " + (int) sign + " at " + i, sign == '\n' || sign >= ' ' && sign < 127);
        }
    }

    /** A method ends at the first closing brace that stands as far in as its head. */
    private static void methodsAreShort(String source) {
        Matcher heads = Pattern.compile("(?m)^((?: {4}){1,2})[a-zA-Z][\\w\\[\\] ]*\\([^)]*\\) \\{$").matcher(source);
        int found = 0;
        while (heads.find()) {
            int end = source.indexOf("\n" + heads.group(1) + "}\n", heads.start());
            if (heads.group().matches(" *(if|for|while|switch) .*")) {
                continue;
            }
            found++;
            long lines = source.substring(heads.start(), Math.max(end, heads.start())).lines().count() + 1;
            due(heads.group().strip() + " is short", end > 0 && lines <= 60);
        }
        due("methods are found in the source", found >= FACE.length);
    }

    private static String withoutTexts(String source) {
        return source.replaceAll("(?s)/\\*.*?\\*/", " ").replaceAll("//[^\n]*", " ").replaceAll("\"[^\"]*\"", "\"\"");
    }

    private static void words(String code) {
        for (String word : RULED_OUT) {
            boolean isWord = Character.isLetter(word.charAt(0));
            Matcher matcher = Pattern.compile(isWord ? "\\b" + word + "\\b" : Pattern.quote(word)).matcher(code);
            due("the source has " + word, !matcher.find());
        }
        Matcher calls = Pattern.compile("\\b(Math|Integer|Long|System|Arrays)\\.(\\w+)").matcher(code);
        Set<String> allowed = Set.of("Math.min", "Math.max", "Long.compare", "Long.bitCount", "System.arraycopy");
        while (calls.find()) {
            due("the library's " + calls.group(), allowed.contains(calls.group()));
        }
    }
}
