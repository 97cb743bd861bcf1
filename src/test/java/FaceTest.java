import java.io.IOException;
import java.lang.reflect.Constructor;
import java.lang.reflect.Field;
import java.lang.reflect.Method;
import java.lang.reflect.Modifier;
import java.nio.charset.StandardCharsets;
import java.nio.file.Files;
import java.nio.file.Path;
import java.util.ArrayList;
import java.util.Collections;
import java.util.List;
import java.util.regex.Matcher;
import java.util.regex.Pattern;

/** The public face to the letter, and those rules of the language that a search of the text can tell. */
public final class FaceTest {
    private static final String SOURCE = "src/main/java/SelfishJunction.java";

    private static final String[] FACE = {
        "int addPlayer(int,int) IllegalArgumentException IllegalStateException",
        "int addResource(char,int,int) IllegalArgumentException IllegalStateException",
        "int addRoad(int,int,char,int,int) IllegalArgumentException IllegalStateException",
        "int addTraveller(int,int,int,int) IllegalArgumentException NoSuchElementException IllegalStateException",
        "int addWay(int,int) IndexOutOfBoundsException IllegalArgumentException UnsupportedOperationException"
            + " IllegalStateException",
        "double bestCase() UnsupportedOperationException ArithmeticException",
        "int bestWay(int) IndexOutOfBoundsException NoSuchElementException",
        "long checksum()",
        "int choose(int,int) IndexOutOfBoundsException UnsupportedOperationException",
        "boolean close(int,boolean) IndexOutOfBoundsException UnsupportedOperationException",
        "int costOf(int,int) IndexOutOfBoundsException",
        "float costOfDisorder() UnsupportedOperationException ArithmeticException",
        "int countPlays()",
        "int countRests() UnsupportedOperationException",
        "int countWays(int) IndexOutOfBoundsException",
        "int getChosen(int) IndexOutOfBoundsException",
        "int getCost(int) IndexOutOfBoundsException",
        "int getDelay(int,int) IndexOutOfBoundsException IllegalArgumentException",
        "long getLevel(int,boolean) IllegalArgumentException NoSuchElementException",
        "int getLoad(int) IndexOutOfBoundsException",
        "int getMargin(int) IndexOutOfBoundsException",
        "int getPotential() UnsupportedOperationException",
        "int getRegret(int) IndexOutOfBoundsException",
        "int getTotal()",
        "int getWay(int,int) IndexOutOfBoundsException",
        "int goToRest(int) UnsupportedOperationException NoSuchElementException",
        "int greatestGain()",
        "boolean hasRing() UnsupportedOperationException",
        "int improve(int) IndexOutOfBoundsException UnsupportedOperationException",
        "boolean isRest()",
        "boolean isSound()",
        "boolean isStrong() UnsupportedOperationException",
        "boolean lead(int,boolean) IndexOutOfBoundsException",
        "int learn(int) IllegalArgumentException",
        "int leastTotal() UnsupportedOperationException",
        "int longestRun() UnsupportedOperationException ArithmeticException",
        "int paradox() UnsupportedOperationException NoSuchElementException",
        "int restTotal(int) UnsupportedOperationException NoSuchElementException",
        "int run(char,int) IllegalArgumentException",
        "int setMind(int,int) IndexOutOfBoundsException IllegalArgumentException",
        "int setSeed(int) IllegalArgumentException",
        "int setToll(int,int) IndexOutOfBoundsException IllegalArgumentException",
        "int tollByMargins()",
    };

    /** What may not stand in the file, by the number of the rule. */
    private static final String[][] FORBIDDEN = {
        {"2", "->|::"},
        {"3", "\\b(Object|Map|Set|HashMap|Collection|LinkedList|Deque|Long|Character|Boolean|Double)\\b(?!\\.(compare"
            + "|max|min|abs|bitCount))"},
        {"4", "import (?!java\\.util\\.NoSuchElementException;)|System\\.(?!arraycopy)|Exact\\(|String\\.format"},
        {"5", "static \\{|static (?!final|class|abstract|interface|boolean hasBit)[\\w\\[\\]]+ \\w+ ?[=;]"},
        {"6", "\\b(finally|catch|try|synchronized|assert|throw e\\b|getMessage)\\b"},
        {"6", "\\b(equals|hashCode|toString)\\("},
        {"13", "Random|currentTimeMillis|nanoTime|Thread|File|getenv"},
    };

    public static void main(String[] args) throws IOException {
        face();
        String text = Files.readString(Path.of(SOURCE), StandardCharsets.ISO_8859_1);
        language(text);
        methodLengths(text);
        classes();
        Check.finish();
    }

    private static void face() {
        Class<?> of = SelfishJunction.class;
        Check.due("modifiers of the class", Modifier.toString(of.getModifiers()), "public final");
        Check.due("constructors", of.getDeclaredConstructors().length, 1);
        Constructor<?> constructor = of.getDeclaredConstructors()[0];
        Check.due("the constructor", constructor.toString(), "public SelfishJunction()");
        List<String> found = new ArrayList<>();
        List<String> names = new ArrayList<>();
        for (Method method : of.getDeclaredMethods()) {
            if (!Modifier.isPrivate(method.getModifiers())) {
                found.add(signature(method));
                names.add(method.getName());
            }
        }
        Collections.sort(found, (a, b) -> Integer.compare(place(a), place(b)));
        Check.due("methods", String.join("\n", found), String.join("\n", FACE));
        for (Method method : of.getDeclaredMethods()) {
            if (Modifier.isPrivate(method.getModifiers())) {
                Check.due("a private " + method.getName(), names.contains(method.getName()), false);
            }
        }
        for (Field field : of.getDeclaredFields()) {
            Check.due("the field " + field.getName(), Modifier.isPrivate(field.getModifiers()), true);
        }
    }

    private static int place(String signature) {
        for (int i = 0; i < FACE.length; i++) {
            if (FACE[i].equals(signature)) {
                return i;
            }
        }
        return FACE.length;
    }

    private static String signature(Method method) {
        List<String> kinds = new ArrayList<>();
        for (Class<?> kind : method.getParameterTypes()) {
            kinds.add(kind.getSimpleName());
        }
        StringBuilder thrown = new StringBuilder();
        for (Class<?> one : method.getExceptionTypes()) {
            thrown.append(' ').append(one.getSimpleName());
        }
        Check.due("public " + method.getName(), Modifier.toString(method.getModifiers()), "public");
        return method.getReturnType().getSimpleName() + " " + method.getName() + "(" + String.join(",", kinds) + ")"
            + thrown;
    }

    private static void language(String text) {
        for (int i = 0; i < text.length(); i++) {
            if (text.charAt(i) > 127) {
                Check.due("a sign at " + i, (int) text.charAt(i), 127);
            }
        }
        String code = text.replaceAll("(?s)/\\*.*?\\*/", "").replaceAll("//.*", "").replaceAll("\"[^\"]*\"", "\"\"");
        for (String[] rule : FORBIDDEN) {
            Matcher matcher = Pattern.compile(rule[1]).matcher(code);
            Check.due("against rule " + rule[0], matcher.find() ? matcher.group() : "nothing", "nothing");
        }
    }

    private static void methodLengths(String text) {
        int start = -1;
        String[] lines = text.split("\n");
        for (int i = 0; i < lines.length; i++) {
            if (lines[i].matches("( {4}| {8})\\S.*\\) .*\\{|( {4}| {8})\\S.*\\) \\{") && !lines[i].contains("class ")) {
                start = i;
            }
            if (start >= 0 && lines[i].matches("( {4}| {8})\\}")) {
                if (i - start > 60) {
                    Check.due("the length of the method at line " + start, i - start, 60);
                }
                start = -1;
            }
        }
    }

    private static void classes() {
        Check.due("few classes", SelfishJunction.class.getDeclaredClasses().length <= 12, true);
        for (Class<?> inside : SelfishJunction.class.getDeclaredClasses()) {
            int fields = 0;
            for (Field field : inside.getDeclaredFields()) {
                fields += Modifier.isStatic(field.getModifiers()) ? 0 : 1;
            }
            Check.due("few fields in " + inside.getSimpleName(), fields <= 20, true);
            Check.due("static " + inside.getSimpleName(), Modifier.isStatic(inside.getModifiers()), true);
        }
    }
}
