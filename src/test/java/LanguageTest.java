import java.lang.reflect.Constructor;
import java.lang.reflect.Field;
import java.lang.reflect.Member;
import java.lang.reflect.Method;
import java.lang.reflect.Modifier;
import java.nio.file.Files;
import java.nio.file.Path;
import java.util.Set;
import java.util.TreeSet;
import java.util.regex.Matcher;
import java.util.regex.Pattern;

/** The rules of LANGUAGE.md that can be seen in the program's text, or by its classes. Run in the project's directory. */
public final class LanguageTest {
    private static final Due DUE = new Due("LanguageTest");
    private static final Set<String> FACE = Set.of("periods", "tell", "tellAll", "let", "of", "feed", "read", "least", "lot", "by",
        "forward", "calm", "part", "ways", "bounded", "rule", "thumb", "more", "keeps", "touched", "hand", "handAs", "judged",
        "print", "row", "put", "get", "from", "into", "undo", "redo", "image", "back", "count");
    private static final Set<String> CONSTANTS = Set.of("BAD", "NOT", "FULL", "STATE", "LONG");

    public static void main(String[] args) throws Exception {
        String text = Files.readString(Path.of("src/main/java/LotPlanner.java")).replaceAll("(?s)/\\*.*?\\*/|//[^\n]*", "");
        words(text);
        face();
        for (Class<?> inside : LotPlanner.class.getDeclaredClasses()) insideClass(inside);
        DUE.due("at most twelve classes", LotPlanner.class.getDeclaredClasses().length < 12 ? 1 : 0, 1);
        DUE.end();
    }

    private static void words(String text) {
        String[] ruledOut = {"throw", "throws", "try", "catch", "synchronized", "assert", "import", "package", "instanceof", "record",
            "->", "::", "\"\\s*\\+", "\\+\\s*\"", "double", "float", "System", "Thread", "Random", "Exception", "var", "protected",
            "Object", "\\w+Exact", "hashCode", "equals", "toString", "Long\\.", "List", "String\\.", "format"};
        for (String word : ruledOut) {
            String pattern = Character.isLetter(word.charAt(0)) ? "\\b" + word : word;
            if (Character.isLetter(word.charAt(word.length() - 1))) pattern += "\\b";
            DUE.due("times of " + word, Pattern.compile(pattern).matcher(text).results().count(), 0);
        }
        Matcher library = Pattern.compile("\\bMath\\.(\\w+)").matcher(text);
        while (library.find()) DUE.due("Math." + library.group(1), Set.of("min", "max").contains(library.group(1)) ? 1 : 0, 1);
        for (String line : text.split("\n")) {
            boolean made = line.contains("new ");
            boolean inConstructor = line.contains("private final");
            DUE.due("made in constructors alone: " + line.trim(), made && !inConstructor ? 1 : 0, 0);
        }
    }

    private static void face() {
        Set<String> names = new TreeSet<>();
        for (Method method : LotPlanner.class.getDeclaredMethods()) {
            boolean open = Modifier.isPublic(method.getModifiers());
            DUE.due("public or private: " + method, open || Modifier.isPrivate(method.getModifiers()) ? 1 : 0, 1);
            DUE.due("of the face: " + method, FACE.contains(method.getName()) == open ? 1 : 0, 1);
            if (open) names.add(method.getName());
        }
        DUE.due("methods of the face", names.size(), FACE.size());
        for (Field field : LotPlanner.class.getDeclaredFields()) {
            boolean open = Modifier.isPublic(field.getModifiers());
            DUE.due("public or private: " + field, open || Modifier.isPrivate(field.getModifiers()) ? 1 : 0, 1);
            DUE.due("of the face: " + field, CONSTANTS.contains(field.getName()) == open ? 1 : 0, 1);
            constantIfStatic(field);
        }
        Constructor<?>[] constructors = LotPlanner.class.getDeclaredConstructors();
        DUE.due("constructors", constructors.length, 1);
        DUE.due("its parameters", constructors[0].getParameterCount(), 0);
        DUE.due("public and final", isAll(LotPlanner.class.getModifiers(), Modifier.PUBLIC | Modifier.FINAL), 1);
    }

    private static int isAll(int modifiers, int wanted) {
        return (modifiers & wanted) == wanted ? 1 : 0;
    }

    private static void constantIfStatic(Member member) {
        if (Modifier.isStatic(member.getModifiers())) DUE.due("final: " + member, isAll(member.getModifiers(), Modifier.FINAL), 1);
    }

    private static void insideClass(Class<?> inside) {
        DUE.due("static: " + inside, isAll(inside.getModifiers(), Modifier.STATIC), 1);
        DUE.due("not public: " + inside, isAll(inside.getModifiers(), Modifier.PUBLIC), 0);
        int fields = 0;
        for (Field field : inside.getDeclaredFields()) {
            constantIfStatic(field);
            if (!Modifier.isStatic(field.getModifiers())) fields++;
        }
        DUE.due("at most twenty fields: " + inside, fields <= 20 ? 1 : 0, 1);
        for (Method method : inside.getDeclaredMethods()) {
            DUE.due("no name of the face: " + method, FACE.contains(method.getName()) ? 1 : 0, 0);
            DUE.due("at most seven parameters: " + method, method.getParameterCount() <= 7 ? 1 : 0, 1);
        }
    }
}
