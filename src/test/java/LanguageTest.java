import java.io.IOException;
import java.lang.reflect.Field;
import java.lang.reflect.Member;
import java.lang.reflect.Method;
import java.lang.reflect.Modifier;
import java.nio.file.Files;
import java.nio.file.Path;
import java.util.ArrayList;
import java.util.List;
import java.util.Set;
import java.util.TreeSet;
import java.util.regex.Matcher;
import java.util.regex.Pattern;

/** Those rules of ../shared/LANGUAGE.md that can be seen from the text and the face of the class. */
public final class LanguageTest {
    private static final Path SOURCE = Path.of("src/main/java/ClaimBus.java");
    private static final String[] FACE = {
        "node(int,int,int,boolean,int):int", "start(int):boolean", "stop(int):boolean", "request(int,int):boolean",
        "send(int,int,int,int,int):boolean", "trouble(int,int,int,int):int", "tell(int):boolean", "lose(int,int):boolean",
        "pass(int):int", "told(int,int):int", "table(int,int):int", "message(int,int,int):int", "kept(int,int,int,int):int",
        "carried(int):int", "sound():boolean", "count(int):int"
    };
    private static final String[] FORBIDDEN = {
        "\\b(throw|throws|try|catch|finally|synchronized|assert|native)\\b", "::", "(?m)^(?!\\s*(case|default)\\b).*->",
        "\\b\\w+Exact\\b", "\\b(Random|Thread|Runtime|Object|Class|Exception|Error|Double|Float)\\b",
        "\\bSystem\\.(?!arraycopy)", "\\b(hashCode|getClass)\\b", "\\b(boolean equals|String toString)\\(",
        "[^\\x01-\\x7e]", "(?m)^\\s*package\\b", "\\bstatic\\s*\\{",
        "import (?!java\\.util\\.(ArrayList|List|Arrays|Iterator);)"
    };
    /** "some twelve", "some twenty", "some sixty" */
    private static final int MOST_CLASSES = 13;
    private static final int MOST_FIELDS = 22;
    private static final int MOST_LINES = 65;

    private static final List<String> faults = new ArrayList<>();

    private LanguageTest() {
    }

    public static void main(String[] args) throws IOException {
        String code = withoutComments(Files.readString(SOURCE));
        for (String one : FORBIDDEN) {
            Matcher found = Pattern.compile(one).matcher(code);
            if (found.find()) {
                faults.add("forbidden: " + found.group());
            }
        }
        seesFace();
        seesClasses();
        seesMethods(code);
        faults.forEach(System.out::println);
        System.out.println("LanguageTest: " + faults.size() + " faults");
        System.exit(faults.isEmpty() ? 0 : 1);
    }

    private static String withoutComments(String code) {
        return code.replaceAll("(?s)/\\*.*?\\*/", "").replaceAll("//[^\\n]*", "");
    }

    private static void seesFace() {
        Set<String> face = new TreeSet<>();
        Set<String> names = new TreeSet<>();
        for (Method one : ClaimBus.class.getDeclaredMethods()) {
            StringBuilder text = new StringBuilder(one.getName()).append('(');
            for (Class<?> type : one.getParameterTypes()) {
                text.append(text.charAt(text.length() - 1) == '(' ? "" : ",").append(type.getName());
            }
            text.append("):").append(one.getReturnType().getName());
            if (!Modifier.isPrivate(one.getModifiers())) {
                face.add(text.toString());
                names.add(one.getName());
            }
        }
        if (!face.equals(new TreeSet<>(List.of(FACE)))) {
            faults.add("another face: " + face);
        }
        for (Method one : ClaimBus.class.getDeclaredMethods()) {
            if (Modifier.isPrivate(one.getModifiers()) && names.contains(one.getName())) {
                faults.add("a private method with a public one's name: " + one);
            }
        }
        for (Field one : ClaimBus.class.getDeclaredFields()) {
            if (!Modifier.isPrivate(one.getModifiers()) && !one.getName().equals("BAD")) {
                faults.add("a field that is not private: " + one);
            }
        }
        if (!Modifier.isFinal(ClaimBus.class.getModifiers()) || ClaimBus.class.getDeclaredConstructors().length != 1) {
            faults.add("not final, or another constructor");
        }
    }

    private static void seesClasses() {
        List<Class<?>> all = new ArrayList<>(List.of(ClaimBus.class.getDeclaredClasses()));
        all.add(ClaimBus.class);
        if (all.size() > MOST_CLASSES) {
            faults.add("too many classes: " + all.size());
        }
        for (Class<?> one : all) {
            int fields = 0;
            for (Field field : one.getDeclaredFields()) {
                fields += Modifier.isStatic(field.getModifiers()) ? 0 : 1;
                if (Modifier.isStatic(field.getModifiers()) && !Modifier.isFinal(field.getModifiers())) {
                    faults.add("static state: " + field);
                }
            }
            if (fields > MOST_FIELDS) {
                faults.add("too many fields: " + one);
            }
            if (one != ClaimBus.class && !Modifier.isStatic(one.getModifiers())) {
                faults.add("not static: " + one);
            }
            for (Member method : one.getDeclaredMethods()) {
                if (((Method) method).getParameterCount() > 7) {
                    faults.add("too many parameters: " + method);
                }
            }
        }
    }

    private static void seesMethods(String code) {
        int lines = 0;
        String name = "";
        for (String line : code.split("\n")) {
            if (line.matches("    (    )?[a-zA-Z].*\\) \\{")) {
                lines = 0;
                name = line.trim();
            }
            lines++;
            if (lines > MOST_LINES && line.matches("    (    )?\\}") && !name.isEmpty()) {
                faults.add("a long method: " + name);
            }
            if (line.matches("    (    )?\\}")) {
                name = "";
            }
        }
    }
}
