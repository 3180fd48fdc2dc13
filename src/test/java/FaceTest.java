import java.io.IOException;
import java.lang.reflect.Constructor;
import java.lang.reflect.Field;
import java.lang.reflect.Method;
import java.lang.reflect.Modifier;
import java.nio.charset.StandardCharsets;
import java.nio.file.Files;
import java.nio.file.Path;
import java.util.Set;
import java.util.TreeSet;
import java.util.regex.Pattern;

/** The public face of the document, and the rules of LANGUAGE.md that a look at the class can tell. */
public final class FaceTest {
    private static final Set<String> METHODS = Set.of(
        "int code(int,long)", "long name(int,int)", "int swap(int,int,int)", "int rule(int,int,long)",
        "long result()", "int fail(int,boolean)", "int started(int)", "int clear(int,int)",
        "int put(int,int,boolean)", "int join(int,int,int,int)", "int member(int,int)", "int about(int,int)",
        "int record(int,int,int,int,int)", "int lay(int,int,int,int)", "int cell(int,int,int)",
        "int back(int,int)", "int part(int)", "int filter(int,int,int,int,int)", "int found(int)",
        "long sum(int)", "int count(int)");
    private static final String[] CONSTANTS = {
        "BAD", "FULL", "STATE", "NONE", "ZERO", "INDEX", "OWN", "START", "NO_START"
    };
    private static final String[] NO_WORDS = {
        "throw", "throws", "try", "catch", "synchronized", "assert", "package", "native", "volatile",
        "import\\s+(?!java\\.util\\.(ArrayList|List|Arrays|Iterator);)\\S+", "\\w+Exact", "System\\.(?!arraycopy\\b)\\w+", "::"
    };

    private static final Due due = new Due();

    public static void main(String[] args) throws Exception {
        methods();
        constantsAndFields();
        constructors();
        nestedClasses();
        words();
        due.end();
    }

    private static String told(Method method) {
        StringBuilder text = new StringBuilder(method.getReturnType() + " " + method.getName() + "(");
        for (Class<?> type : method.getParameterTypes()) {
            text.append(text.charAt(text.length() - 1) == '(' ? "" : ",").append(type);
        }
        return text.append(")").toString();
    }

    private static void methods() {
        Set<String> seen = new TreeSet<>();
        Set<String> names = new TreeSet<>();
        for (Method method : RecordLabels.class.getDeclaredMethods()) {
            if (Modifier.isPublic(method.getModifiers())) {
                seen.add(told(method));
                names.add(method.getName());
                due.holds(method + " is of an object", !Modifier.isStatic(method.getModifiers()));
            }
        }
        due.holds("the methods are the document's: " + seen, seen.equals(METHODS));
        for (Method method : RecordLabels.class.getDeclaredMethods()) {
            if (!Modifier.isPublic(method.getModifiers())) {
                due.holds(method + " is private", Modifier.isPrivate(method.getModifiers()));
                due.holds(method + " is written, not made of a lambda", !method.isSynthetic());
                due.holds(method + " bears no public method's name", !names.contains(method.getName()));
            }
        }
    }

    private static void constantsAndFields() throws Exception {
        for (int i = 0; i < CONSTANTS.length; i++) {
            due.is(CONSTANTS[i], RecordLabels.class.getField(CONSTANTS[i]).getInt(null), -1 - i);
        }
        due.is("how many public fields", RecordLabels.class.getFields().length, CONSTANTS.length);
        for (Field field : RecordLabels.class.getDeclaredFields()) {
            int modifiers = field.getModifiers();
            due.holds(field + " is public or private", Modifier.isPublic(modifiers) || Modifier.isPrivate(modifiers));
            due.holds(field + " is final if static", !Modifier.isStatic(modifiers) || Modifier.isFinal(modifiers));
        }
    }

    private static void constructors() {
        Constructor<?>[] all = RecordLabels.class.getDeclaredConstructors();
        due.is("how many constructors", all.length, 1);
        due.holds("it is public", Modifier.isPublic(all[0].getModifiers()));
        due.is("its parameters", all[0].getParameterCount(), 0);
        int modifiers = RecordLabels.class.getModifiers();
        due.holds("the class is public and final", Modifier.isPublic(modifiers) && Modifier.isFinal(modifiers));
    }

    private static void nestedClasses() {
        for (Class<?> nested : RecordLabels.class.getDeclaredClasses()) {
            due.holds(nested + " is static", Modifier.isStatic(nested.getModifiers()));
            due.holds(nested + " is not public", !Modifier.isPublic(nested.getModifiers()));
        }
    }

    private static void words() throws IOException {
        String source = Files.readString(Path.of("src/main/java/RecordLabels.java"), StandardCharsets.UTF_8);
        String code = source.replaceAll("(?s)/\\*.*?\\*/", " ").replaceAll("//[^\n]*", " ");
        for (String word : NO_WORDS) {
            String pattern = word.matches("[-:].*") ? word : "\\b" + word + "\\b";
            due.holds("the class does without " + word, !Pattern.compile(pattern).matcher(code).find());
        }
    }
}
