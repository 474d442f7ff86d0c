import java.io.IOException;
import java.lang.reflect.Field;
import java.lang.reflect.Method;
import java.lang.reflect.Modifier;
import java.nio.file.Files;
import java.nio.file.Path;
import java.util.Set;
import java.util.TreeSet;
import java.util.regex.Matcher;
import java.util.regex.Pattern;

/** The public face as the document has it, and those rules of LANGUAGE.md that can be read off the source. */
public final class FaceTest {
    private static final String FACE = "feed(i)i end(i)i text()i fault()i rule(i)i clock(ii)i alter(iii)i push(i)i hang(ii)i "
        + "cut(i)i knock(ii)i ticks(i)i runs(ii)i ahead(iii)i beats(i)i together()i again()i period(ii)i hand(ii)i kind(ii)i "
        + "force(i)i away(i)i luck(iiii)l mean(iii)l see(iii)i forget(i)i kinds(i)i periods(i)i hands(i)i ask(ii)i drift(iii)i "
        + "keep(i)i back(i)i sheet(iii)i lay(iii)i read(iiii)i torn()i count(i)i";

    public static void main(String[] args) throws IOException {
        methods();
        constants();
        classesInside();
        String source = Files.readString(Path.of("src/main/java/BeamClocks.java"));
        words(withoutComments(source));
        lengths(source);
        Due.close("FaceTest");
    }

    private static void methods() {
        Set<String> face = new TreeSet<>();
        for (Method m : BeamClocks.class.getDeclaredMethods()) {
            if (Modifier.isPublic(m.getModifiers())) {
                Due.hold(m + " is not static", !Modifier.isStatic(m.getModifiers()));
                face.add(signature(m));
            } else {
                Due.hold(m + " is private", Modifier.isPrivate(m.getModifiers()) || m.isSynthetic());
            }
        }
        Due.hold("the face is the document's: " + face, face.equals(new TreeSet<>(Set.of(FACE.split(" ")))));
        Due.hold("the class is public and final", BeamClocks.class.getModifiers() == (Modifier.PUBLIC | Modifier.FINAL));
        Due.be("constructors", BeamClocks.class.getDeclaredConstructors().length, 1);
        Due.be("public constructors", BeamClocks.class.getConstructors().length, 1);
        Due.be("its parameters", BeamClocks.class.getConstructors()[0].getParameterCount(), 0);
    }

    private static String signature(Method m) {
        StringBuilder s = new StringBuilder(m.getName()).append('(');
        for (Class<?> p : m.getParameterTypes()) {
            s.append(p.getName().charAt(0));
        }
        return s.append(')').append(m.getReturnType().getName().charAt(0)).toString();
    }

    private static void constants() {
        Due.be("BAD", BeamClocks.BAD, -1);
        Due.be("STATE", BeamClocks.STATE, -2);
        Due.be("FULL", BeamClocks.FULL, -3);
        Due.be("NONE", BeamClocks.NONE, -4);
        Set<String> face = new TreeSet<>();
        int own = 0;
        for (Field f : BeamClocks.class.getDeclaredFields()) {
            own += Modifier.isStatic(f.getModifiers()) ? 0 : 1;
            if (!Modifier.isPrivate(f.getModifiers())) {
                face.add(f.getName());
            }
        }
        Due.hold("the constants are the document's: " + face, face.equals(Set.of("BAD", "STATE", "FULL", "NONE")));
        Due.hold("some twenty fields at most: " + own, own <= 20);
    }

    private static void classesInside() {
        Set<String> face = new TreeSet<>();
        for (String s : FACE.split(" ")) {
            face.add(s.substring(0, s.indexOf('(')));
        }
        Class<?>[] inside = BeamClocks.class.getDeclaredClasses();
        Due.hold("some twelve classes at most", inside.length < 12);
        for (Class<?> c : inside) {
            int is = c.getModifiers();
            Due.hold(c + " is static", Modifier.isStatic(is));
            Due.hold(c + " is not public", !Modifier.isPublic(is) && !Modifier.isProtected(is));
            for (Method m : c.getDeclaredMethods()) {
                Due.hold(m + " has a name of its own", !face.contains(m.getName()));
                Due.hold(m + " takes seven at most", m.getParameterCount() <= 7);
            }
            for (Field f : c.getDeclaredFields()) {
                Due.hold(f + " is final if static", !Modifier.isStatic(f.getModifiers()) || Modifier.isFinal(f.getModifiers()));
            }
        }
        for (Method m : BeamClocks.class.getDeclaredMethods()) {
            Due.hold(m + " has a name of its own", Modifier.isPublic(m.getModifiers()) || !face.contains(m.getName()));
        }
    }

    private static String withoutComments(String source) {
        return source.replaceAll("(?s)/\\*.*?\\*/", "").replaceAll("//[^\n]*", "");
    }

    private static void words(String code) {
        String banned = "throw|throws|try|catch|finally|synchronized|assert|Exact|Object|Random|Thread|record|package|var|null";
        Matcher m = Pattern.compile("\\b(" + banned + ")\\b|->|::|import (?!java\\.util\\.Arrays;)|System\\.(?!arraycopy)").matcher(code);
        while (m.find()) {
            Due.hold("not in the source: " + m.group(), false);
        }
        for (String line : code.split("\n")) {
            if (line.contains("new ")) {
                boolean inField = line.matches(" +(private )?final .*= new .*");
                boolean inConstructor = line.matches(" +(images|sheets)\\[k\\] = new (Beam|Sheet)\\(\\);");
                Due.hold("made as the object is made: " + line.trim(), inField || inConstructor);
            }
        }
    }

    private static void lengths(String source) {
        String[] lines = source.split("\n");
        int begun = -1;
        String indent = "";
        for (int i = 0; i < lines.length; i++) {
            Matcher m = Pattern.compile("( {4}| {8})[a-zA-Z].*\\) \\{").matcher(lines[i]);
            boolean head = m.matches() && !lines[i].trim().matches("(if|for|while|switch|else|do)\\b.*");
            if (begun < 0 && head) {
                begun = i;
                indent = m.group(1);
            } else if (begun >= 0 && lines[i].equals(indent + "}")) {
                Due.hold(lines[begun].trim() + " has sixty lines at most", i - begun < 60);
                begun = -1;
            }
        }
        Due.be("every method was seen to its end", begun, -1);
    }
}
