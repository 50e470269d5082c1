import java.io.IOException;
import java.lang.reflect.Constructor;
import java.lang.reflect.Field;
import java.lang.reflect.Member;
import java.lang.reflect.Method;
import java.lang.reflect.Modifier;
import java.nio.file.Files;
import java.nio.file.Path;
import java.util.ArrayList;
import java.util.Arrays;
import java.util.List;
import java.util.TreeSet;
import java.util.regex.Matcher;
import java.util.regex.Pattern;

/** The public face as ../shared/DOC.md has it, and rule 1 of LANGUAGE.md; LanguageTest has the others. */
public final class FaceTest {
    private static final Path DOC = Path.of("../shared/DOC.md");

    public static void main(String[] args) throws IOException {
        face();
        Check.finish();
    }

    private static void face() throws IOException {
        TreeSet<String> want = new TreeSet<>();
        Matcher m = Pattern.compile("^    public (\\w+) (\\w+)\\(([^)]*)\\);$", Pattern.MULTILINE).matcher(Files.readString(DOC));
        while (m.find()) {
            String types = m.group(3).replaceAll("(\\w+) \\w+", "$1").replace(" ", "");
            want.add(m.group(1) + " " + m.group(2) + "(" + types + ")");
        }
        TreeSet<String> got = new TreeSet<>();
        List<Member> others = new ArrayList<>();
        TreeSet<String> publicNames = new TreeSet<>();
        for (Method method : BillTender.class.getDeclaredMethods()) {
            if (Modifier.isPublic(method.getModifiers())) {
                got.add(method.getReturnType() + " " + method.getName() + "("
                    + String.join(",", Arrays.stream(method.getParameterTypes()).map(Class::getName).toList()) + ")");
                publicNames.add(method.getName());
            } else {
                others.add(method);
            }
        }
        Check.due("the face", got.toString(), want.toString());
        Check.due("methods", got.size(), 48);
        others.addAll(Arrays.asList(BillTender.class.getDeclaredFields()));
        for (Class<?> inside : BillTender.class.getDeclaredClasses()) {
            Check.due(inside + " is static", Modifier.isStatic(inside.getModifiers()), true);
            others.addAll(Arrays.asList(inside.getDeclaredMethods()));
        }
        for (Member member : others) {
            boolean isNone = member instanceof Field && member.getName().equals("NONE");
            Check.due(member + " is private", Modifier.isPrivate(member.getModifiers()), !isNone);
            boolean bears = member instanceof Method && publicNames.contains(member.getName());
            Check.due(member + " bears a public name", bears, false);
        }
        Constructor<?>[] made = BillTender.class.getDeclaredConstructors();
        Check.due("constructors", made.length, 1);
        Check.due("constructor is public", Modifier.isPublic(made[0].getModifiers()), true);
        Check.due("class is final", Modifier.isFinal(BillTender.class.getModifiers()), true);
    }
}
