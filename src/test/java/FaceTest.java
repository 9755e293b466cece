import java.lang.reflect.Constructor;
import java.lang.reflect.Field;
import java.lang.reflect.Method;
import java.lang.reflect.Modifier;
import java.nio.file.Files;
import java.nio.file.Path;
import java.util.Set;
import java.util.TreeSet;
import java.util.regex.Matcher;
import java.util.regex.Pattern;

/** The public face, and what of LANGUAGE.md can be seen by reflection or by words alone. */
public final class FaceTest {
    private static final Check check = new Check();
    private static final Path SOURCE = Path.of("src/main/java/BlankPardons.java");

    private static final Set<String> FACE = Set.of(
            "int kingdom(int,int,int,int)", "int ofDeed(int,int)", "int ofSubject(int,int)", "int fear(int,int)",
            "int alter(int,int,int)", "int grant(int,int)", "int year(int,int,int,int,int)",
            "long hope(int,int,int,int)", "int uses(int,int,int)", "int buyers(int,int)", "int best(int)",
            "int reading(int,int,boolean)", "int back(int)", "int risks(int)", "int hurts(int)", "int kinds(int)",
            "long odds(int,int,int)", "int sheet(int,int,int)", "int lose(int)", "int put(int,int,int)",
            "long cell(int,int,int)", "int copy(int,int,int,int,int)", "int tell(int)", "int name(int)",
            "int as(int,int)", "int trace()", "int fault()", "int many(int)");

    public static void main(String[] args) throws Exception {
        constants();
        members();
        nestedClasses();
        words(Files.readString(SOURCE));
        check.finish();
    }

    private static void constants() throws Exception {
        String[] names = {"UNKNOWN", "OUTSIDE", "STATE", "FULL", "NONE"};
        int[] values = {-1, -2, -3, -4, -9};
        for (int k = 0; k < names.length; k++) {
            Field field = BlankPardons.class.getField(names[k]);
            check.holds(names[k] + " is an int", field.getType() == int.class);
            check.due(names[k], field.getInt(null), values[k]);
        }
        check.holds("LOST is a long", BlankPardons.class.getField("LOST").getType() == long.class);
        check.due("LOST", BlankPardons.LOST, Long.MIN_VALUE);
        for (Field field : BlankPardons.class.getDeclaredFields()) {
            int bits = field.getModifiers();
            boolean named = Set.of("UNKNOWN", "OUTSIDE", "STATE", "FULL", "NONE", "LOST").contains(field.getName());
            check.holds(field + " is of the face or private", named ? Modifier.isPublic(bits) : Modifier.isPrivate(bits));
            check.holds(field + " is final, if static", !Modifier.isStatic(bits) || Modifier.isFinal(bits));
        }
    }

    private static void members() {
        check.holds("final", Modifier.isFinal(BlankPardons.class.getModifiers()));
        Constructor<?>[] made = BlankPardons.class.getDeclaredConstructors();
        check.due("constructors", made.length, 1);
        check.due("parameters of it", made[0].getParameterCount(), 0);
        check.holds("it is public", Modifier.isPublic(made[0].getModifiers()));
        Set<String> open = new TreeSet<>();
        Set<String> openNames = new TreeSet<>();
        for (Method method : BlankPardons.class.getDeclaredMethods()) {
            if (!Modifier.isPrivate(method.getModifiers())) {
                open.add(signature(method));
                openNames.add(method.getName());
                check.holds(method + " is public", Modifier.isPublic(method.getModifiers()));
                check.holds(method + " is no static", !Modifier.isStatic(method.getModifiers()));
            }
        }
        check.holds("the face is the document's: " + open, open.equals(FACE));
        for (Method method : BlankPardons.class.getDeclaredMethods()) {
            if (Modifier.isPrivate(method.getModifiers())) {
                check.holds(method + " has a name of its own", !openNames.contains(method.getName()));
            }
        }
    }

    private static String signature(Method method) {
        StringBuilder text = new StringBuilder();
        text.append(method.getReturnType()).append(' ').append(method.getName()).append('(');
        String comma = "";
        for (Class<?> type : method.getParameterTypes()) {
            text.append(comma).append(type);
            comma = ",";
        }
        return text.append(')').toString();
    }

    private static void nestedClasses() {
        Class<?>[] nested = BlankPardons.class.getDeclaredClasses();
        check.holds("at most twelve classes", nested.length + 1 <= 12);
        for (Class<?> one : nested) {
            int bits = one.getModifiers();
            check.holds(one + " is static", Modifier.isStatic(bits));
            check.holds(one + " is not open", !Modifier.isPublic(bits) && !Modifier.isProtected(bits));
            check.holds(one + " has at most seven parameters", mostParameters(one) <= 7);
        }
        check.holds("at most seven parameters", mostParameters(BlankPardons.class) <= 7);
    }

    private static int mostParameters(Class<?> one) {
        int most = 0;
        for (Method method : one.getDeclaredMethods()) {
            most = Math.max(most, method.getParameterCount());
        }
        return most;
    }

    private static void words(String source) {
        String code = source.replaceAll("(?s)/\\*.*?\\*/", "").replaceAll("//[^\n]*", "");
        String[] banned = {"\\bthrow\\b", "\\bthrows\\b", "\\btry\\b", "\\bcatch\\b", "\\bsynchronized\\b",
            "\\bassert\\b", "\\bpackage\\b", "\\bimport\\b", "->", "::", "\\bwhile\\b", "\\bdo\\b", "\\bnative\\b",
            "\\bdouble\\b", "\\bfloat\\b", "Exact\\(", "\\bSystem\\.(?!arraycopy)", "\\bThread\\b", "\""};
        for (String word : banned) {
            Matcher found = Pattern.compile(word).matcher(code);
            check.holds("no " + word + " in the class", !found.find());
        }
        for (int k = 0; k < source.length(); k++) {
            if (source.charAt(k) > 127) {
                check.holds("plain signs at " + k, false);
            }
        }
    }
}
