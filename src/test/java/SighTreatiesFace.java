import java.io.IOException;
import java.lang.reflect.Constructor;
import java.lang.reflect.Executable;
import java.lang.reflect.Field;
import java.lang.reflect.Method;
import java.lang.reflect.Modifier;
import java.nio.file.Files;
import java.nio.file.Path;
import java.util.ArrayList;
import java.util.HashSet;
import java.util.List;
import java.util.Set;
import java.util.TreeSet;
import java.util.regex.Matcher;
import java.util.regex.Pattern;

/** The members of the class against the face in ../shared/DOC.md, and rules of ../shared/LANGUAGE.md that a text shows. */
public final class SighTreatiesFace {
    private static final Path SOURCE = Path.of("src/main/java/SighTreaties.java");
    private static final Path DOCUMENT = Path.of("../shared/DOC.md");

    private static int wrong;

    private static void due(String what, boolean holds) {
        if (!holds) {
            wrong++;
            System.out.println(what);
        }
    }

    private static String parameters(Executable member) {
        List<String> names = new ArrayList<>();
        for (Class<?> type : member.getParameterTypes()) {
            names.add(type.getSimpleName());
        }
        return String.join(",", names);
    }

    private static String thrown(Executable member) {
        List<String> names = new ArrayList<>();
        for (Class<?> type : member.getExceptionTypes()) {
            names.add(type.getSimpleName());
        }
        return String.join(",", names);
    }

    private static Set<String> membersOfTheClass() {
        Set<String> members = new TreeSet<>();
        for (Constructor<?> c : SighTreaties.class.getDeclaredConstructors()) {
            members.add("SighTreaties(" + parameters(c) + ")" + thrown(c));
            due("the constructor is not public", Modifier.isPublic(c.getModifiers()));
        }
        for (Method m : SighTreaties.class.getDeclaredMethods()) {
            if (!Modifier.isPrivate(m.getModifiers()) && !m.isSynthetic()) {
                due(m.getName() + " is not a public method of an object",
                    Modifier.isPublic(m.getModifiers()) && !Modifier.isStatic(m.getModifiers()));
                members.add(m.getReturnType().getSimpleName() + " " + m.getName()
                    + "(" + parameters(m) + ")" + thrown(m));
            }
        }
        return members;
    }

    private static Set<String> membersOfTheDocument() throws IOException {
        Set<String> members = new TreeSet<>();
        Pattern line = Pattern.compile("    public (?:(\\w+) )?(\\w+)\\(([^)]*)\\)(?: throws ([^;]*))?;");
        Matcher matcher = line.matcher(Files.readString(DOCUMENT));
        while (matcher.find()) {
            String type = matcher.group(1) == null ? "" : matcher.group(1) + " ";
            String kinds = matcher.group(3).replaceAll(" \\w+(,|$)", "$1").replace(" ", "");
            String exceptions = matcher.group(4) == null ? "" : matcher.group(4).replace(" ", "");
            members.add(type + matcher.group(2) + "(" + kinds + ")" + exceptions);
        }
        return members;
    }

    private static void testFace() throws IOException {
        Set<String> asked = membersOfTheDocument();
        due("the document tells " + asked.size() + " members, 66 were read before", asked.size() == 66);
        Set<String> missing = new TreeSet<>(asked);
        Set<String> more = membersOfTheClass();
        missing.removeAll(more);
        more.removeAll(asked);
        due("missing on the face: " + missing, missing.isEmpty());
        due("not on the document's face: " + more, more.isEmpty());
        due("the class is not public and final",
            (SighTreaties.class.getModifiers() & (Modifier.PUBLIC | Modifier.FINAL))
                == (Modifier.PUBLIC | Modifier.FINAL));
    }

    private static void testMembers() {
        Set<String> publicNames = new HashSet<>();
        for (Method m : SighTreaties.class.getDeclaredMethods()) {
            if (Modifier.isPublic(m.getModifiers())) {
                publicNames.add(m.getName());
            }
        }
        testNamesAndFields(SighTreaties.class, publicNames);
        Class<?>[] inside = SighTreaties.class.getDeclaredClasses();
        due("more than twelve classes", inside.length < 12);
        for (Class<?> c : inside) {
            due(c + " is public or not static", !Modifier.isPublic(c.getModifiers()) && Modifier.isStatic(c.getModifiers()));
            testNamesAndFields(c, publicNames);
        }
    }

    private static void testNamesAndFields(Class<?> c, Set<String> publicNames) {
        for (Method m : c.getDeclaredMethods()) {
            boolean isFace = c == SighTreaties.class && Modifier.isPublic(m.getModifiers());
            due(m + " bears the name of a public one", isFace || !publicNames.contains(m.getName()));
            due(m + " has more than seven parameters", m.getParameterCount() <= 7);
        }
        int fields = 0;
        for (Field f : c.getDeclaredFields()) {
            due(f + " is static and not final", !Modifier.isStatic(f.getModifiers()) || Modifier.isFinal(f.getModifiers()));
            due(f + " is not private", c != SighTreaties.class || Modifier.isPrivate(f.getModifiers()));
            if (!Modifier.isStatic(f.getModifiers())) {
                fields++;
            }
        }
        due(c + " has more than twenty fields", fields <= 20);
    }

    private static void testText() throws IOException {
        String text = Files.readString(SOURCE);
        String code = text.replaceAll("(?s)/\\*.*?\\*/", "").replaceAll("//[^\n]*", "");
        String[] words = {"import", "package", "try", "catch", "finally", "synchronized", "assert", "System\\.out", "->",
            "::", "Double", "Object", "equals", "hashCode", "toString", "Exact\\b", "var", "protected", "getMessage"};
        for (String word : words) {
            String bounded = word.matches("\\w+") ? "\\b" + word + "\\b" : word;
            due("the source has " + word, !Pattern.compile(bounded).matcher(code).find());
        }
        due("a sign beyond 126", text.chars().allMatch(sign -> sign == '\n' || sign >= 32 && sign <= 126));
        due("a tab or a long line", text.lines().allMatch(line -> line.length() <= 120));
    }

    public static void main(String[] args) throws IOException {
        testFace();
        testMembers();
        testText();
        System.out.println(wrong == 0 ? "the face is as told" : wrong + " faults of the face");
        if (wrong != 0) {
            System.exit(1);
        }
    }
}
