import java.lang.reflect.Constructor;
import java.lang.reflect.Field;
import java.lang.reflect.Member;
import java.lang.reflect.Method;
import java.lang.reflect.Modifier;
import java.nio.file.Files;
import java.nio.file.Path;
import java.util.ArrayList;
import java.util.List;
import java.util.Set;
import java.util.TreeSet;

/** The class has the document's face and no other, and no private method bears a public one's name. */
final class FaceTest {
    public static void main(String[] args) throws Exception {
        Check c = new Check("FaceTest");
        Set<String> due = faceOfDocument();
        Set<String> got = new TreeSet<>();
        for (Method m : DryRiver.class.getDeclaredMethods()) {
            if (Modifier.isPublic(m.getModifiers())) {
                got.add(row(m));
            }
        }
        c.is("methods of the document", 50, due.size());
        for (String row : due) {
            c.is("has " + row, true, got.contains(row));
        }
        for (String row : got) {
            c.is("may have " + row, true, due.contains(row));
        }
        c.is("final", true, Modifier.isFinal(DryRiver.class.getModifiers()));
        c.is("NONE", -1, DryRiver.NONE);
        noOtherMembers(c);
        c.close();
    }

    private static Set<String> faceOfDocument() throws Exception {
        Set<String> rows = new TreeSet<>();
        String doc = Files.readString(Path.of("../shared/DOC.md"));
        String face = doc.substring(doc.indexOf("```java"), doc.indexOf("## Terms"));
        for (String line : face.split("\n")) {
            if (line.startsWith("    public ") && line.contains("(") && !line.contains("DryRiver()")) {
                String head = line.strip().substring("public ".length()).replace(";", "");
                String thrown = head.contains(" throws ") ? head.substring(head.indexOf(" throws ") + 8) : "";
                head = head.contains(" throws ") ? head.substring(0, head.indexOf(" throws ")) : head;
                String in = head.substring(head.indexOf('(') + 1, head.indexOf(')'));
                List<String> types = new ArrayList<>();
                for (String one : in.split(",")) {
                    if (!one.isBlank()) {
                        types.add(one.strip().split(" ")[0]);
                    }
                }
                rows.add(head.substring(0, head.indexOf('(')) + types + new TreeSet<>(List.of(thrown.split(", "))));
            }
        }
        return rows;
    }

    private static String row(Method m) {
        List<String> types = new ArrayList<>();
        for (Class<?> type : m.getParameterTypes()) {
            types.add(type.getSimpleName());
        }
        Set<String> thrown = new TreeSet<>();
        for (Class<?> type : m.getExceptionTypes()) {
            thrown.add(type.getSimpleName());
        }
        if (thrown.isEmpty()) {
            thrown.add("");
        }
        return m.getReturnType().getSimpleName() + " " + m.getName() + types + thrown;
    }

    private static void noOtherMembers(Check c) {
        Set<String> names = new TreeSet<>();
        List<Member> members = new ArrayList<>();
        for (Method m : DryRiver.class.getDeclaredMethods()) {
            if (Modifier.isPublic(m.getModifiers())) {
                names.add(m.getName());
            } else {
                members.add(m);
            }
        }
        for (Field f : DryRiver.class.getDeclaredFields()) {
            if (!f.getName().equals("NONE")) {
                members.add(f);
            }
        }
        for (Member m : members) {
            c.is("private " + m.getName(), true, Modifier.isPrivate(m.getModifiers()));
            c.is("own name of " + m.getName(), false, m instanceof Method && names.contains(m.getName()));
        }
        for (Constructor<?> made : DryRiver.class.getDeclaredConstructors()) {
            c.is("parameters of the constructor", 0, made.getParameterCount());
        }
        for (Class<?> inside : DryRiver.class.getDeclaredClasses()) {
            c.is("static " + inside.getName(), true, Modifier.isStatic(inside.getModifiers()));
            for (Method m : inside.getDeclaredMethods()) {
                c.is("own name of " + inside.getName() + "." + m.getName(), false, names.contains(m.getName()));
            }
        }
    }
}
