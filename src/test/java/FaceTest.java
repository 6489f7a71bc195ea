import java.io.IOException;
import java.lang.reflect.Constructor;
import java.lang.reflect.Field;
import java.lang.reflect.Member;
import java.lang.reflect.Method;
import java.lang.reflect.Modifier;
import java.nio.file.Files;
import java.nio.file.Path;
import java.util.ArrayList;
import java.util.List;
import java.util.Set;
import java.util.TreeSet;

/** "The public face": the class has all of it, each call with the exceptions that it names, and no more. */
public final class FaceTest {
    /** As the document writes it. */
    private static final String[] FACE = {
        "public final class Gangline",
        "public Gangline()",
        "public int leg(int length, int surface, int climb) throws IllegalArgumentException, "
            + "UnsupportedOperationException, IllegalStateException",
        "public int cold(int leg, int degrees) throws IndexOutOfBoundsException, IllegalArgumentException",
        "public int storm(int leg, int from, int to, int strength) throws IndexOutOfBoundsException, "
            + "IllegalArgumentException, IllegalStateException",
        "public boolean must(int checkpoint, boolean is) throws IndexOutOfBoundsException, UnsupportedOperationException",
        "public int team() throws IllegalStateException",
        "public int dog(int team, int strength, int lead) throws IndexOutOfBoundsException, IllegalArgumentException, "
            + "IllegalStateException",
        "public int lease(int dog, int team) throws IndexOutOfBoundsException, UnsupportedOperationException",
        "public int hitch(int team, int dog) throws IndexOutOfBoundsException, UnsupportedOperationException, "
            + "IllegalStateException",
        "public int send(int team, int checkpoint, int kilos) throws IndexOutOfBoundsException, "
            + "IllegalArgumentException, UnsupportedOperationException, IllegalStateException",
        "public int begin(int team, int kilos) throws IndexOutOfBoundsException, IllegalArgumentException, "
            + "UnsupportedOperationException",
        "public int run(int team) throws IndexOutOfBoundsException, UnsupportedOperationException",
        "public int camp(int team, int hours) throws IndexOutOfBoundsException, IllegalArgumentException, "
            + "UnsupportedOperationException",
        "public int restLong(int team) throws IndexOutOfBoundsException, UnsupportedOperationException",
        "public int restMust(int team) throws IndexOutOfBoundsException, UnsupportedOperationException",
        "public int take(int team, int kilos) throws IndexOutOfBoundsException, IllegalArgumentException, "
            + "UnsupportedOperationException, IllegalStateException",
        "public int feed(int team, int kilos) throws IndexOutOfBoundsException, IllegalArgumentException, "
            + "UnsupportedOperationException, IllegalStateException",
        "public int melt(int team) throws IndexOutOfBoundsException, UnsupportedOperationException",
        "public boolean boots(int team, boolean are) throws IndexOutOfBoundsException, UnsupportedOperationException",
        "public int give(int team, int other, int kilos) throws IndexOutOfBoundsException, IllegalArgumentException, "
            + "UnsupportedOperationException, IllegalStateException",
        "public int help(int team) throws IndexOutOfBoundsException, UnsupportedOperationException",
        "public int mend(int team) throws IndexOutOfBoundsException, UnsupportedOperationException, IllegalStateException",
        "public int exchange(int team) throws IndexOutOfBoundsException, UnsupportedOperationException, "
            + "IllegalStateException",
        "public int drop(int team, int dog) throws IndexOutOfBoundsException, UnsupportedOperationException",
        "public boolean scratch(int team) throws IndexOutOfBoundsException",
        "public int order(int team, char kind, int number) throws IndexOutOfBoundsException, IllegalArgumentException, "
            + "IllegalStateException",
        "public int clear(int team) throws IndexOutOfBoundsException",
        "public boolean isAdmitted(int team) throws IndexOutOfBoundsException",
        "public int forecast(int team) throws IndexOutOfBoundsException, NoSuchElementException",
        "public int follow(int team) throws IndexOutOfBoundsException, NoSuchElementException",
        "public int bestPlan(int team, int legs) throws IndexOutOfBoundsException, IllegalArgumentException, "
            + "NoSuchElementException",
        "public char why(int team) throws IndexOutOfBoundsException",
        "public int dogOf(int dog, char what) throws IndexOutOfBoundsException, IllegalArgumentException",
        "public char stateOf(int dog) throws IndexOutOfBoundsException",
        "public boolean mustStop(int dog) throws IndexOutOfBoundsException",
        "public int teamOf(int team, char what) throws IndexOutOfBoundsException, IllegalArgumentException",
        "public char raceOf(int team) throws IndexOutOfBoundsException",
        "public int owed(int team) throws IndexOutOfBoundsException",
        "public int standing(int place) throws IndexOutOfBoundsException",
        "public int estimate(int team) throws IndexOutOfBoundsException, UnsupportedOperationException",
        "public long purse(int amount) throws IllegalArgumentException",
        "public int endYear() throws UnsupportedOperationException",
        "public int litter(int mother, int father) throws IndexOutOfBoundsException, IllegalArgumentException, "
            + "UnsupportedOperationException, IllegalStateException",
        "public boolean areKin(int dog, int other) throws IndexOutOfBoundsException",
        "public int train(int dog, int kilometres) throws IndexOutOfBoundsException, IllegalArgumentException, "
            + "UnsupportedOperationException",
        "public float inShare() throws ArithmeticException",
        "public double meanFeet() throws ArithmeticException",
        "public boolean isTrue()"
    };

    private FaceTest() {
    }

    public static void main(String[] args) throws IOException {
        inTheSource(Files.readString(Path.of("src/main/java/Gangline.java")));
        inTheClass();
        nothingElse();
        Check.end("FaceTest");
    }

    private static void inTheSource(String source) {
        String plain = source.replaceAll("\\s+", " ");
        for (String line : FACE) {
            Check.is("the source has: " + line, () -> plain.contains(" " + line + " {"));
        }
    }

    private static void inTheClass() {
        Set<String> due = new TreeSet<>();
        for (String line : FACE) {
            due.add(line.replaceAll("(\\w+) [a-z]\\w*(?=[,)])", "$1"));
        }
        Set<String> got = publicOnes();
        for (String line : due) {
            Check.is("the class has: " + line, () -> got.contains(line));
        }
        for (String line : got) {
            Check.is("the document has: " + line, () -> due.contains(line));
        }
    }

    private static Set<String> publicOnes() {
        Set<String> lines = new TreeSet<>();
        lines.add(Modifier.toString(Gangline.class.getModifiers()) + " class " + Gangline.class.getName());
        for (Constructor<?> constructor : Gangline.class.getConstructors()) {
            lines.add(Modifier.toString(constructor.getModifiers()) + " " + signature(constructor.getName(),
                constructor.getParameterTypes(), constructor.getExceptionTypes()));
        }
        for (Method method : Gangline.class.getDeclaredMethods()) {
            if (Modifier.isPublic(method.getModifiers())) {
                lines.add(Modifier.toString(method.getModifiers()) + " " + method.getReturnType().getSimpleName()
                    + " " + signature(method.getName(), method.getParameterTypes(), method.getExceptionTypes()));
            }
        }
        return lines;
    }

    private static String signature(String name, Class<?>[] parameters, Class<?>[] exceptions) {
        String throwing = exceptions.length == 0 ? "" : " throws " + names(exceptions);
        return name + "(" + names(parameters) + ")" + throwing;
    }

    private static String names(Class<?>[] classes) {
        List<String> names = new ArrayList<>();
        for (Class<?> one : classes) {
            names.add(one.getSimpleName());
        }
        return String.join(", ", names);
    }

    /** No other member can be seen from outside, and no private method bears the name of a public one. */
    private static void nothingElse() {
        List<Member> members = new ArrayList<>(List.of(Gangline.class.getDeclaredMethods()));
        members.addAll(List.of(Gangline.class.getDeclaredConstructors()));
        members.addAll(List.of(Gangline.class.getDeclaredFields()));
        Set<String> names = new TreeSet<>();
        for (Member member : members) {
            if (Modifier.isPublic(member.getModifiers())) {
                names.add(member.getName());
            }
        }
        for (Member member : members) {
            int modifiers = member.getModifiers();
            Check.is(member + " is public or private",
                () -> Modifier.isPublic(modifiers) && !(member instanceof Field) || Modifier.isPrivate(modifiers));
            Check.is(member + " has a name of its own", () -> Modifier.isPublic(modifiers)
                || member instanceof Field || !names.contains(member.getName()));
        }
        for (Class<?> inside : Gangline.class.getDeclaredClasses()) {
            int modifiers = inside.getModifiers();
            Check.is(inside + " is private and static",
                () -> Modifier.isPrivate(modifiers) && Modifier.isStatic(modifiers));
        }
    }
}
