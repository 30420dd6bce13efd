import java.io.IOException;
import java.lang.reflect.Constructor;
import java.lang.reflect.Field;
import java.lang.reflect.Method;
import java.lang.reflect.Modifier;
import java.nio.file.Files;
import java.nio.file.Path;
import java.util.Set;
import java.util.TreeSet;
import java.util.regex.Matcher;
import java.util.regex.Pattern;

/** The public face, as the document has it, and nothing beside it. */
public final class FaceTest {
    private static final Path DOCUMENT = Path.of("../shared/DOC.md");
    private static final Path SOURCE = Path.of("src/main/java/TelegraphPrices.java");
    private static final String DOCUMENT_HEAD = "^    (public [^;\n]*);";
    private static final String SOURCE_HEAD = "^    (public [^{\n]*?) \\{";

    private static final String[] FACE = {
        "int addWord(int) IllegalArgumentException IllegalStateException",
        "boolean turnStandIn(int int) IndexOutOfBoundsException IllegalArgumentException",
        "boolean turnJoin(int int) IndexOutOfBoundsException",
        "int setLimit(int) IllegalArgumentException",
        "int setLeastCount(int) IllegalArgumentException",
        "int setCoins(int) IllegalArgumentException",
        "int write(int) IndexOutOfBoundsException IllegalStateException",
        "int strike(int) IndexOutOfBoundsException",
        "boolean turnJoined(int) IndexOutOfBoundsException IllegalStateException",
        "int reword()",
        "int send(int) IndexOutOfBoundsException IllegalStateException",
        "int words()",
        "int lettersOf(int) IndexOutOfBoundsException",
        "int countOf(int) IndexOutOfBoundsException",
        "boolean mayStandFor(int int) IndexOutOfBoundsException",
        "boolean mayJoin(int int) IndexOutOfBoundsException",
        "int standInsOf(int) IndexOutOfBoundsException",
        "int limit()",
        "int leastCount()",
        "int coins()",
        "int length()",
        "int wordAt(int) IndexOutOfBoundsException",
        "boolean isJoined(int) IndexOutOfBoundsException",
        "int count()",
        "int price()",
        "int priceTo(int) IndexOutOfBoundsException",
        "int sent()",
        "int earned()",
        "int cheapestCount()",
        "int cheapestWordAt(int) IndexOutOfBoundsException",
        "boolean isJoinedInCheapest(int) IndexOutOfBoundsException",
        "int saves()",
        "int wordings()",
        "int bestJoin()",
        "double meanCost()",
        "long digest()"};

    public static void main(String[] args) throws IOException {
        Check check = new Check();
        int kind = TelegraphPrices.class.getModifiers();
        check.is("the class is public and final", Modifier.isPublic(kind) && Modifier.isFinal(kind), true);
        check.isText("the calls", callsOf().toString(), new TreeSet<>(Set.of(FACE)).toString());
        check.isText("the constructors", constructorsOf(), " public TelegraphPrices()");
        noOtherMemberIsSeen(check);
        String document = Files.readString(DOCUMENT);
        String source = Files.readString(SOURCE);
        check.isText("the face in the source", found(SOURCE_HEAD, source), found(DOCUMENT_HEAD, document));
        check.isText("the sections in the source", sectionsOf(source), sectionsDueBy(document));
        check.end();
    }

    /** What the pattern's first group finds in the text, a line each. */
    private static String found(String pattern, String text) {
        StringBuilder lines = new StringBuilder();
        Matcher matcher = Pattern.compile(pattern, Pattern.MULTILINE).matcher(text);
        while (matcher.find()) {
            lines.append('\n').append(matcher.group(1));
        }
        return lines.toString();
    }

    /** The sections of the source that have calls of the face, with those calls. */
    private static String sectionsOf(String source) {
        StringBuilder sections = new StringBuilder();
        for (String section : source.split("\n    // (?=---- )")) {
            String calls = found("^    public \\w+ (\\w+)\\(", section);
            if (section.startsWith("---- ") && !calls.isEmpty()) {
                sections.append(section, 0, section.indexOf('\n')).append(calls).append('\n');
            }
        }
        return sections.toString();
    }

    private static String sectionsDueBy(String document) {
        StringBuilder sections = new StringBuilder();
        Matcher row = Pattern.compile("Ahead of the calls (.*) the interface says: (---- .*)\\.").matcher(document);
        while (row.find()) {
            sections.append(row.group(2)).append(found("`(\\w+)`", row.group(1))).append('\n');
        }
        return sections.toString();
    }

    private static String namesOf(Class<?>[] types) {
        StringBuilder text = new StringBuilder();
        for (Class<?> type : types) {
            text.append(text.length() == 0 ? "" : " ").append(type.getSimpleName());
        }
        return text.toString();
    }

    private static Set<String> callsOf() {
        Set<String> calls = new TreeSet<>();
        for (Method method : TelegraphPrices.class.getDeclaredMethods()) {
            if (!Modifier.isPrivate(method.getModifiers())) {
                String call = method.getReturnType() + " " + method.getName()
                    + "(" + namesOf(method.getParameterTypes()) + ") " + namesOf(method.getExceptionTypes());
                calls.add(call.trim());
            }
        }
        return calls;
    }

    private static String constructorsOf() {
        StringBuilder text = new StringBuilder();
        for (Constructor<?> constructor : TelegraphPrices.class.getDeclaredConstructors()) {
            text.append(' ').append(constructor);
        }
        return text.toString();
    }

    private static void noOtherMemberIsSeen(Check check) {
        Set<String> calls = new TreeSet<>();
        for (Method method : TelegraphPrices.class.getDeclaredMethods()) {
            boolean hidden = Modifier.isPrivate(method.getModifiers());
            check.is(method + " is public or private", hidden || Modifier.isPublic(method.getModifiers()), true);
            check.is(method.getName() + " is the name of one method alone", calls.add(method.getName()), true);
        }
        for (Field field : TelegraphPrices.class.getDeclaredFields()) {
            int kind = field.getModifiers();
            check.is(field + " is private", Modifier.isPrivate(kind), true);
            check.is(field + " is final, if it is static", !Modifier.isStatic(kind) || Modifier.isFinal(kind), true);
        }
    }
}
