import java.io.IOException;
import java.lang.reflect.Field;
import java.lang.reflect.Method;
import java.lang.reflect.Modifier;
import java.nio.file.Files;
import java.nio.file.Path;
import java.util.ArrayList;
import java.util.Arrays;
import java.util.List;
import java.util.Set;
import java.util.TreeSet;
import java.util.regex.Matcher;
import java.util.regex.Pattern;

/** The public face, and what of LANGUAGE.md can be seen from the compiled class and its source. */
public final class FaceTest {
    private static final String[] FACE = {"int array(int,int)", "int things(int,int)", "int rows(int,int)",
        "int grid(int,int,int,int,int,int)", "int about(int,int)", "int row(int,int)", "int setRow(int,int,int)",
        "long read(int,int,int,int,int,int)", "int write(int,int,int,int,int,int,long)", "int place(int,int,int,int,int)",
        "int pin(int,int,int,int,int,boolean)", "int column(int,int)", "int code()", "int widens(int,int)",
        "int fill(int,int,int,int,long)", "int move(int,int,int,int,int)", "int copy(int,int)", "int deep(int)",
        "int sort(int,int,int)", "int search(int,long)", "int same(int,int)", "int hash(int)",
        "int decide(int,int,int,int,int)", "int candidate(int,long)", "int span(int,long,long,long)", "int choose(int,int)",
        "int decision(int,int)", "long candidateOf(int,int)", "int rule(int,int,int,long,long)", "long amount(int)",
        "long score()", "int best()", "int mark()", "int back()", "int count(int)"};

    private static int wrong = 0;

    public static void main(String[] args) throws IOException {
        face();
        for (Class<?> type : classes()) {
            namesAndFields(type);
        }
        source(Files.readString(Path.of("src/main/java/DecisionArrays.java")));
        System.out.println(wrong + " rules broken");
        if (wrong > 0) {
            System.exit(1);
        }
    }

    private static void tell(boolean fine, String what) {
        if (!fine) {
            wrong++;
            System.out.println(what);
        }
    }

    private static List<Class<?>> classes() {
        List<Class<?>> all = new ArrayList<>(Arrays.asList(DecisionArrays.class.getDeclaredClasses()));
        all.add(DecisionArrays.class);
        return all;
    }

    private static void face() {
        Set<String> found = new TreeSet<>();
        for (Method method : DecisionArrays.class.getDeclaredMethods()) {
            if (!Modifier.isPrivate(method.getModifiers())) {
                String types = Arrays.toString(Arrays.stream(method.getParameterTypes()).map(Class::getName).toArray());
                String inside = types.substring(1, types.length() - 1).replace(" ", "");
                found.add(method.getReturnType().getName() + " " + method.getName() + "(" + inside + ")");
                tell(Modifier.isPublic(method.getModifiers()), method + " is neither public nor private");
                tell(!Modifier.isStatic(method.getModifiers()), method + " is static");
            }
        }
        tell(found.equals(new TreeSet<>(Arrays.asList(FACE))), "the face is " + found);
        tell(DecisionArrays.class.getDeclaredConstructors().length == 1, "there is more than one constructor");
        tell(DecisionArrays.class.getConstructors().length == 1, "the constructor is not public");
        tell(Modifier.isFinal(DecisionArrays.class.getModifiers()), "the class is not final");
        for (Field field : DecisionArrays.class.getDeclaredFields()) {
            tell(Modifier.isPrivate(field.getModifiers()), field + " is not private");
        }
        tell(classes().size() <= 12, "there are " + classes().size() + " classes");
    }

    private static void namesAndFields(Class<?> type) {
        boolean outer = type == DecisionArrays.class;
        int fields = 0;
        for (Field field : type.getDeclaredFields()) {
            boolean constant = Modifier.isStatic(field.getModifiers());
            fields += constant ? 0 : 1;
            tell(!constant || Modifier.isFinal(field.getModifiers()), field + " is static and can change");
        }
        tell(fields <= 20, type + " has " + fields + " fields");
        tell(outer || Modifier.isStatic(type.getModifiers()), type + " is not static");
        for (Method method : type.getDeclaredMethods()) {
            boolean faceName = Arrays.stream(FACE).anyMatch(f -> f.matches("\\w+ " + method.getName() + "\\(.*"));
            tell(!faceName || Modifier.isPublic(method.getModifiers()) && outer, method + " bears a name of the face");
            tell(method.getParameterCount() <= 7, method + " takes more than seven");
        }
    }

    private static void source(String text) {
        String code = text.replaceAll("(?s)/\\*.*?\\*/", "").replaceAll("//[^\n]*", "");
        String[] banned = {"throw", "throws", "try", "catch", "finally", "synchronized", "assert", "float", "double", "->",
            "::", "protected", "package", "Exact", "instanceof", "Random", "nanoTime", "currentTimeMillis", "Object",
            "MIN_VALUE", "MAX_VALUE", "String"};
        for (String word : banned) {
            String edge = Character.isLetter(word.charAt(0)) ? "\\b" : "";
            tell(!Pattern.compile(edge + Pattern.quote(word) + edge).matcher(code).find(), "the source has '" + word + "'");
        }
        Matcher library = Pattern.compile("\\b(Math|Integer|Long|System|Arrays|Float|Double|Character)\\.(\\w+)").matcher(code);
        Set<String> allowed = Set.of("Math.min", "Math.max", "System.arraycopy");
        while (library.find()) {
            tell(allowed.contains(library.group()), "the source uses " + library.group());
        }
        Matcher imports = Pattern.compile("import ([\\w.]+);").matcher(code);
        while (imports.find()) {
            tell(imports.group(1).equals("java.util.ArrayList"), "the source imports " + imports.group(1));
        }
        lengths(text);
    }

    private static void lengths(String text) {
        String[] lines = text.split("\n");
        for (String indent : new String[] {"    ", "        "}) {
            int start = -1;
            for (int i = 0; i < lines.length; i++) {
                if (start < 0 && lines[i].startsWith(indent) && lines[i].matches(indent + "\\S.*\\) \\{")) {
                    start = i;
                } else if (start >= 0 && lines[i].equals(indent + "}")) {
                    tell(i - start < 60, "what ends in line " + (i + 1) + " is long");
                    start = -1;
                }
            }
        }
    }
}
