import java.io.IOException;
import java.lang.reflect.Constructor;
import java.lang.reflect.Field;
import java.lang.reflect.Method;
import java.lang.reflect.Modifier;
import java.nio.file.Files;
import java.nio.file.Path;
import java.util.Arrays;
import java.util.Set;
import java.util.TreeSet;
import java.util.regex.Matcher;
import java.util.regex.Pattern;

/** The public face, and those rules of LANGUAGE.md that can be seen in the source. */
public final class FaceTest {
    private static final Due DUE = new Due("FaceTest");
    private static final String FACE = "sign/2 of/2 ground/4 at/2 price/2 terms/2 feed/5 end/1 row/0 spray/0 law/0 orders/0 "
        + "fault/0 stopped/0 force/1 hunt/2 sell/1 advance/2 leave/1 undo/0 money/1 parts/0L best/2L odds/3L left/1 least/1 "
        + "crew/3L word/2 forget/0 barrels/1 ask/1 years/2 drawn/2 image/1 back/1 count/1 status/0";

    public static void main(String[] args) throws IOException {
        face();
        names();
        source();
        DUE.close();
    }

    private static void face() {
        DUE.that("public and final", Modifier.isPublic(WhaleLays.class.getModifiers())
            && Modifier.isFinal(WhaleLays.class.getModifiers()));
        DUE.is("NONE", WhaleLays.NONE, -1);
        DUE.is("NOTHING", WhaleLays.NOTHING, -100000000);
        Set<String> methods = new TreeSet<>();
        for (Method m : WhaleLays.class.getDeclaredMethods()) {
            if (Modifier.isPublic(m.getModifiers())) {
                methods.add(m.getName() + "/" + m.getParameterCount() + (m.getReturnType() == long.class ? "L" : ""));
                DUE.that(m + " takes int alone", Arrays.stream(m.getParameterTypes()).allMatch(t -> t == int.class));
            } else {
                DUE.that(m + " is private", Modifier.isPrivate(m.getModifiers()));
            }
        }
        DUE.that("the methods of the face: " + methods, methods.equals(new TreeSet<>(Arrays.asList(FACE.split(" ")))));
        for (Field f : WhaleLays.class.getDeclaredFields()) {
            boolean open = f.getName().equals("NONE") || f.getName().equals("NOTHING");
            DUE.that(f + " is public or private as it must be",
                open ? Modifier.isPublic(f.getModifiers()) : Modifier.isPrivate(f.getModifiers()));
            DUE.that(f + " is final, if static", !Modifier.isStatic(f.getModifiers()) || Modifier.isFinal(f.getModifiers()));
        }
        for (Constructor<?> c : WhaleLays.class.getDeclaredConstructors()) {
            DUE.that(c + " is public", Modifier.isPublic(c.getModifiers()));
        }
    }

    /** No private method bears the name of a public one, in no class of the file. */
    private static void names() {
        Class<?>[] inside = WhaleLays.class.getDeclaredClasses();
        DUE.that("at most twelve classes", inside.length + 1 <= 12);
        for (Class<?> c : inside) {
            DUE.that(c + " is static", Modifier.isStatic(c.getModifiers()));
            int fields = 0;
            for (Field f : c.getDeclaredFields()) {
                fields += Modifier.isStatic(f.getModifiers()) ? 0 : 1;
            }
            DUE.that(c + " has at most twenty fields", fields <= 20);
            for (Method m : c.getDeclaredMethods()) {
                DUE.that(m + " has a name of its own", !FACE.matches("(.* )?" + m.getName() + "/.*"));
                DUE.that(m + " has at most seven parameters", m.getParameterCount() <= 7);
            }
        }
    }

    private static void source() throws IOException {
        String source = Files.readString(Path.of("src/main/java/WhaleLays.java"));
        String bare = source.replaceAll("(?s)/\\*.*?\\*/", "").replaceAll("//[^\n]*", "").replaceAll("\"[^\"]*\"", "\"\"");
        for (String word : new String[] {"throw", "throws", "try", "catch", "finally", "synchronized", "assert", "import",
            "package", "protected", "native", "volatile", "transient", "hashCode", "equals", "toString", "Exact", "Object"}) {
            DUE.that("no " + word, !Pattern.compile("\\b" + word + "\\b").matcher(bare).find());
        }
        DUE.that("no lambda", !bare.contains("->"));
        DUE.that("no method reference", !bare.contains("::"));
        DUE.that("no loop without an end", !bare.contains("for (;") && !bare.contains("while (true)"));
        Matcher library = Pattern.compile("\\b(Math|Integer|Long|System|Arrays|String|List)\\.(\\w+)").matcher(bare);
        Set<String> used = new TreeSet<>();
        while (library.find()) {
            used.add(library.group());
        }
        Set<String> listed = new TreeSet<>(Arrays.asList("Math.min", "Math.max", "Math.floorDiv", "Integer.bitCount", "System.arraycopy"));
        DUE.that("no library but what is listed: " + used, listed.containsAll(used));
        shortMethods(source);
    }

    private static void shortMethods(String source) {
        String[] lines = source.split("\n");
        int from = -1;
        for (int i = 0; i < lines.length; i++) {
            if (lines[i].matches(" {4,8}(public |private |static )*\\w+(\\[\\])? \\w+\\(.*\\) \\{")) {
                from = i;
            }
            if (from >= 0 && lines[i].matches(" {4,8}\\}") && lines[i].indexOf('}') == lines[from].length() - lines[from].stripLeading().length()) {
                DUE.that("at most sixty lines: " + lines[from].strip(), i - from < 60);
                from = -1;
            }
        }
    }
}
