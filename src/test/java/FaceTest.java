import java.io.IOException;
import java.lang.reflect.Constructor;
import java.lang.reflect.Field;
import java.lang.reflect.Method;
import java.lang.reflect.Modifier;
import java.nio.charset.StandardCharsets;
import java.nio.file.Files;
import java.nio.file.Path;
import java.util.TreeSet;
import java.util.regex.Matcher;
import java.util.regex.Pattern;

/** The public face, with nothing beside it, and the rules of LANGUAGE.md that a text search can see. */
public final class FaceTest {
    private static final Check CHECK = new Check("FaceTest");
    private static final String METHODS = "append(int) clearBuffer() errorPosition() addRow() clearTable() rowDraft(int)"
        + " tableValue(int,int) setLength(int) setMargin(int) setReading(int,int,int) reading(int,int)"
        + " setDensity(int,int) setDeduction(int,int,int) trim(int) deflection(int) heel(int) quarterMean(int)"
        + " firstCorrection(int) secondCorrection(int) displacement(int,int) netWeight(int) cargo(int,int)"
        + " cargoLow(int,int) cargoHigh(int,int) draftFor(int) heaviest() rowCount() digest()";

    public static void main(String[] args) throws IOException {
        constants();
        members();
        methods();
        source();
        CHECK.end();
    }

    private static void constants() {
        CHECK.due("NO_SUCH_SURVEY", DraftSurvey.NO_SUCH_SURVEY, -9000000000000000001L);
        CHECK.due("NO_SUCH_ITEM", DraftSurvey.NO_SUCH_ITEM, -9000000000000000002L);
        CHECK.due("OUT_OF_RANGE", DraftSurvey.OUT_OF_RANGE, -9000000000000000003L);
        CHECK.due("INVALID_ROW", DraftSurvey.INVALID_ROW, -9000000000000000004L);
        CHECK.due("NOT_ASCENDING", DraftSurvey.NOT_ASCENDING, -9000000000000000005L);
        CHECK.due("FULL", DraftSurvey.FULL, -9000000000000000006L);
        CHECK.due("NOT_COVERED", DraftSurvey.NOT_COVERED, -9000000000000000007L);
    }

    private static void members() {
        TreeSet<String> fields = new TreeSet<>();
        for (Field field : DraftSurvey.class.getDeclaredFields()) {
            int marks = field.getModifiers();
            if (!Modifier.isPrivate(marks)) {
                fields.add(Modifier.toString(marks) + " " + field.getType() + " " + field.getName());
            }
            CHECK.due("static and not final: " + field, Modifier.isStatic(marks) && !Modifier.isFinal(marks) ? 1 : 0, 0);
        }
        TreeSet<String> due = new TreeSet<>();
        for (String name : ("NO_SUCH_SURVEY NO_SUCH_ITEM OUT_OF_RANGE INVALID_ROW NOT_ASCENDING FULL NOT_COVERED")
            .split(" ")) {
            due.add("public static final long " + name);
        }
        CHECK.dueText("the fields", fields.toString(), due.toString());
        Constructor<?>[] constructors = DraftSurvey.class.getDeclaredConstructors();
        CHECK.due("the number of constructors", constructors.length, 1);
        CHECK.dueText("the constructor", constructors[0].toString(), "public DraftSurvey()");
        CHECK.dueText("the class", Modifier.toString(DraftSurvey.class.getModifiers()), "public final");
        for (Class<?> inside : DraftSurvey.class.getDeclaredClasses()) {
            int marks = inside.getModifiers();
            CHECK.due("static: " + inside, Modifier.isStatic(marks) ? 1 : 0, 1);
            CHECK.due("public or protected: " + inside,
                Modifier.isPublic(marks) || Modifier.isProtected(marks) ? 1 : 0, 0);
        }
    }

    private static void methods() {
        TreeSet<String> due = new TreeSet<>();
        TreeSet<String> names = new TreeSet<>();
        for (String signature : METHODS.split(" ")) {
            due.add("public long DraftSurvey." + signature);
            names.add(signature.substring(0, signature.indexOf('(')));
        }
        TreeSet<String> found = new TreeSet<>();
        for (Method method : DraftSurvey.class.getDeclaredMethods()) {
            if (Modifier.isPrivate(method.getModifiers())) {
                CHECK.due("a private " + method.getName(), names.contains(method.getName()) ? 1 : 0, 0);
            } else {
                found.add(method.toString());
            }
        }
        CHECK.dueText("the methods", found.toString(), due.toString());
        for (Class<?> inside : DraftSurvey.class.getDeclaredClasses()) {
            for (Method method : inside.getDeclaredMethods()) {
                CHECK.due("a hidden " + method.getName(), names.contains(method.getName()) ? 1 : 0, 0);
            }
        }
    }

    private static void source() throws IOException {
        String text = Files.readString(Path.of("src/main/java/DraftSurvey.java"), StandardCharsets.US_ASCII);
        String code = text.replaceAll("(?s)/\\*.*?\\*/", " ").replaceAll("//[^\n]*", " ");
        String[] banned = {"\\bthrows?\\b", "\\btry\\b", "\\bcatch\\b", "\\bsynchronized\\b", "\\bassert\\b",
            "\\bimport\\b", "\\bpackage\\b", "->", "::", "\\bprotected\\b", "\\bdouble\\b", "\\bfloat\\b", "\\bObject\\b",
            "\\bhashCode\\b", "\\binstanceof\\b", "Exact\\b", "\\bSystem\\.(?!arraycopy)", "static\\s*\\{"};
        for (String pattern : banned) {
            Matcher matcher = Pattern.compile(pattern).matcher(code);
            CHECK.dueText("the source's use of " + pattern, matcher.find() ? matcher.group() : "", "");
        }
    }
}
