import java.io.IOException;
import java.lang.reflect.Constructor;
import java.lang.reflect.Field;
import java.lang.reflect.Method;
import java.lang.reflect.Modifier;
import java.nio.file.Files;
import java.nio.file.Path;
import java.util.Set;
import java.util.TreeSet;
import java.util.regex.Matcher;
import java.util.regex.Pattern;

/** The public face is the document's and no more; what can be seen of the language's rules from the source. */
public final class FaceTest {
    private static final String FACE = """
        int feed(int,int,int,int,int)
        int street(int)
        int fault(int)
        int smith(int,int)
        int blowers(int)
        int rope(int,int)
        int arm(int,int)
        int piece(int,int)
        int minute(int,int)
        int judge(int,int)
        int perform(int)
        int custom(int)
        int live(int)
        int day(int,int)
        int ring(int)
        int rings()
        int steps(int,int)
        int unblown()
        int holds(int,int,int)
        int even(int,int)
        int wave(int,int)
        int bestWave(int)
        int bestRound(int,int)
        int peace(int)
        int selfish(int)
        int soonest()
        int seen(int)
        int sure(int,boolean)
        int ropes(int)
        int lazy(int,int)
        int stranger(int,int,int)
        int bestPlace(int,int)
        int swapped(int,int)
        int when(int)
        int warm(int,int)
        int cold(int)
        int numbers(int,int,int)
        long write(int,int,long)
        int copy(int)
        int image(int)
        int restore(int)
        int count(int)
        """;
    private static final Check CHECK = new Check("FaceTest");
    private static final Set<String> PUBLIC_NAMES = new TreeSet<>();

    public static void main(String[] args) throws IOException {
        members();
        fields();
        for (Class<?> inner : BlownNext.class.getDeclaredClasses()) {
            inside(inner);
        }
        String text = Files.readString(Path.of("src/main/java/BlownNext.java"));
        source(text);
        documentsFace(text, Files.readString(Path.of("../shared/DOC.md")));
        edgesOfEachPromise();
        CHECK.end();
    }

    private static void is(String what, boolean so) {
        CHECK.due(what, so ? 1 : 0, 1);
    }

    private static String written(Method m) {
        StringBuilder b = new StringBuilder(m.getReturnType() + " " + m.getName() + "(");
        for (int k = 0; k < m.getParameterCount(); k++) {
            b.append(k > 0 ? "," : "").append(m.getParameterTypes()[k]);
        }
        return b.append(")").toString();
    }

    private static void members() {
        is("public and final", Modifier.isPublic(BlownNext.class.getModifiers()) && Modifier.isFinal(BlownNext.class.getModifiers()));
        Constructor<?>[] made = BlownNext.class.getDeclaredConstructors();
        is("one public constructor", made.length == 1 && Modifier.isPublic(made[0].getModifiers()) && made[0].getParameterCount() == 0);
        Set<String> due = new TreeSet<>(FACE.lines().toList());
        Set<String> found = new TreeSet<>();
        for (Method m : BlownNext.class.getDeclaredMethods()) {
            if (Modifier.isPublic(m.getModifiers())) {
                found.add(written(m));
                PUBLIC_NAMES.add(m.getName());
                is(m.getName() + " is not static", !Modifier.isStatic(m.getModifiers()));
            } else {
                is(m.getName() + " is private", Modifier.isPrivate(m.getModifiers()));
            }
        }
        is("the face is the document's: " + found, found.equals(due));
        for (Method m : BlownNext.class.getDeclaredMethods()) {
            is(m.getName() + " bears a public one's name", Modifier.isPublic(m.getModifiers()) || !PUBLIC_NAMES.contains(m.getName()));
        }
    }

    private static void fields() {
        for (Field f : BlownNext.class.getDeclaredFields()) {
            int m = f.getModifiers();
            boolean none = f.getName().equals("NONE");
            is(f.getName() + ": NONE alone is public", none ? Modifier.isPublic(m) : Modifier.isPrivate(m));
            is(f.getName() + ": static is final", !Modifier.isStatic(m) || Modifier.isFinal(m));
        }
    }

    private static void inside(Class<?> inner) {
        is(inner + " is static", Modifier.isStatic(inner.getModifiers()));
        int own = 0;
        for (Field f : inner.getDeclaredFields()) {
            is(inner + " " + f.getName(), !Modifier.isStatic(f.getModifiers()) || Modifier.isFinal(f.getModifiers()));
            own += Modifier.isStatic(f.getModifiers()) ? 0 : 1;
        }
        is(inner + " has few fields", own <= 20);
        for (Method m : inner.getDeclaredMethods()) {
            is(inner + " " + m.getName() + " is a name of the face", !PUBLIC_NAMES.contains(m.getName()));
            is(inner + " " + m.getName() + " takes at most seven", m.getParameterCount() <= 7);
        }
        is("at most twelve classes", BlownNext.class.getDeclaredClasses().length < 12);
    }

    /** The face as the document writes it, names of parameters too, in its order. */
    private static void documentsFace(String text, String document) {
        Matcher block = Pattern.compile("(?s)```java\n(public final class BlownNext .*?)```").matcher(document);
        is("the document has a face", block.find());
        int at = 0;
        int members = 0;
        for (String line : block.group(1).split("\n")) {
            if (line.startsWith("    public ")) {
                String member = line.contains("=") ? line : line.substring(0, line.length() - 1) + " {";
                int found = text.indexOf(member, at);
                is("the class has, in the document's order," + line, found >= 0);
                at = Math.max(at, found);
                members++;
            }
        }
        CHECK.due("members of the face", members, 44);
    }

    /** The labels of tests begin with the number of the promise. */
    private static void edgesOfEachPromise() throws IOException {
        StringBuilder edges = new StringBuilder();
        for (String of : new String[] {"Text", "Smiths", "Minutes", "Rings", "Rhythms", "Sought", "Rows"}) {
            edges.append(Files.readString(Path.of("src/test/java/" + of + "EdgesTest.java")));
        }
        for (int promise = 1; promise <= 43; promise++) {
            is("boundary cases of promise " + promise, edges.indexOf("(\"" + promise + " ") >= 0);
        }
    }

    private static void source(String text) {
        String code = text.replaceAll("(?s)/\\*.*?\\*/", "").replaceAll("//[^\n]*", "");
        String[] ruledOut = {"throw", "throws", "try", "catch", "finally", "synchronized", "assert", "->", "::", "package",
            "hashCode", "toString", "Exact", "System.out", "nanoTime", "currentTimeMillis", "Random", "Thread", "HashMap"};
        for (String word : ruledOut) {
            String bound = Character.isLetter(word.charAt(0)) ? "\\b" + Pattern.quote(word) + "\\b" : Pattern.quote(word);
            is("no " + word, !Pattern.compile(bound).matcher(code).find());
        }
        Matcher imports = Pattern.compile("(?m)^import (.*);").matcher(code);
        while (imports.find()) {
            is("import " + imports.group(1), imports.group(1).equals("java.util.Arrays"));
        }
        is("no array of arrays of its own", !code.contains("][]"));
        int length = 0;
        for (String line : text.split("\n")) {
            boolean begins = line.matches("    (    )?[a-z].*\\) \\{") && !line.contains(" class ");
            boolean ends = line.matches("    (    )?\\}");
            length = begins ? 1 : length > 0 ? length + 1 : 0;
            if (ends) {
                is("some sixty lines at most", length <= 60);
                length = 0;
            }
            is("signs 10 and 32 to 126 alone", line.matches("[ -~]*"));
        }
    }
}
