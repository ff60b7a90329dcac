import java.io.IOException;
import java.lang.reflect.Constructor;
import java.lang.reflect.Field;
import java.lang.reflect.Method;
import java.lang.reflect.Modifier;
import java.nio.file.Files;
import java.nio.file.Path;
import java.util.ArrayList;
import java.util.Arrays;
import java.util.HashSet;
import java.util.List;
import java.util.Set;
import java.util.TreeSet;
import java.util.regex.Matcher;
import java.util.regex.Pattern;

/** The public face, as the document writes it, and nothing else that can be seen. */
public final class FaceTest {
    private static final String A = "IllegalArgumentException";
    private static final String X = "IndexOutOfBoundsException";
    private static final String S = "IllegalStateException";

    private static final String[] METHODS = {
        "int source(int,int) " + A + " " + S,
        "int unit(int,int,int,int) " + A + " " + X + " " + S,
        "int back(int,int) " + X + " " + S,
        "int set(int,int) " + X + " " + A,
        "int disturb(int,int,int) " + X + " " + A + " " + S,
        "int control(int,int,int,int,int) " + X + " " + A + " " + S,
        "int ratio(int,int,int) " + X + " " + A + " " + S,
        "void feed(int,int,int) " + X + " " + A + " " + S,
        "int aim(int,int,int) " + X + " " + A + " " + S,
        "boolean select(int) " + X,
        "int tick(int) " + A + " " + S,
        "int quit()",
        "int of(int,int) " + X + " " + A,
        "int ofUnit(int,int) " + X + " " + A,
        "int ofController(int,int) " + X + " " + A,
        "int trend(int,int) " + X,
        "int balance()",
        "int alarms()",
        "int gain(int,int) " + X,
        "int relative(int,int,int,int) " + X,
        "int now()",
    };

    private static final Pattern PUBLIC_PART = Pattern.compile("\\b(public [^;{]*)[;{]");
    private static final Path DOCUMENT = Path.of("../shared/DOC.md");
    private static final Path PROGRAM = Path.of("src/main/java/HeatTrain.java");

    public static void main(String[] args) throws IOException {
        constants();
        methods();
        members();
        asTheDocumentWritesIt();
        Check.end();
    }

    private static void constants() {
        Check.due("NONE", -1, HeatTrain.NONE);
        Check.due("NO_GAIN", -100000, HeatTrain.NO_GAIN);
        Check.due("SOURCE", 0, HeatTrain.SOURCE);
        Check.due("SPLIT", 1, HeatTrain.SPLIT);
        Check.due("MIX", 2, HeatTrain.MIX);
        Check.due("EXCHANGE", 3, HeatTrain.EXCHANGE);
        Check.due("COOLER", 4, HeatTrain.COOLER);
    }

    private static void methods() {
        Set<String> got = new TreeSet<>();
        for (Method m : HeatTrain.class.getDeclaredMethods()) {
            if (!Modifier.isPrivate(m.getModifiers())) {
                got.add(written(m));
            }
        }
        Set<String> want = new TreeSet<>(Arrays.asList(METHODS));
        if (!got.equals(want)) {
            Check.report("the methods are " + got + ", due are " + want);
        }
    }

    private static String written(Method m) {
        List<String> taken = new ArrayList<>();
        for (Class<?> c : m.getParameterTypes()) {
            taken.add(c.getSimpleName());
        }
        StringBuilder text = new StringBuilder();
        text.append(m.getReturnType().getSimpleName()).append(' ').append(m.getName());
        text.append('(').append(String.join(",", taken)).append(')');
        for (Class<?> c : m.getExceptionTypes()) {
            text.append(' ').append(c.getSimpleName());
        }
        return text.toString();
    }

    private static void members() {
        int kind = HeatTrain.class.getModifiers();
        Check.due("public and final", true, Modifier.isPublic(kind) && Modifier.isFinal(kind));
        Constructor<?>[] constructors = HeatTrain.class.getDeclaredConstructors();
        Check.due("constructors", 1, constructors.length);
        Check.due("a public constructor", true, Modifier.isPublic(constructors[0].getModifiers()));
        Check.due("parameters of the constructor", 0, constructors[0].getParameterCount());
        Set<String> open = new HashSet<>();
        for (Field f : HeatTrain.class.getDeclaredFields()) {
            if (!Modifier.isPrivate(f.getModifiers())) {
                open.add(f.getName());
            }
        }
        String[] constants = {"NONE", "NO_GAIN", "SOURCE", "SPLIT", "MIX", "EXCHANGE", "COOLER"};
        Set<String> want = new HashSet<>(Arrays.asList(constants));
        if (!open.equals(want)) {
            Check.report("the fields to be seen are " + open + ", due are " + want);
        }
        privateNames();
    }

    private static void privateNames() {
        Set<String> face = new HashSet<>();
        for (Method m : HeatTrain.class.getMethods()) {
            face.add(m.getName());
        }
        List<Class<?>> all = new ArrayList<>(Arrays.asList(HeatTrain.class.getDeclaredClasses()));
        all.add(HeatTrain.class);
        for (Class<?> c : all) {
            for (Method m : c.getDeclaredMethods()) {
                if (!Modifier.isPublic(m.getModifiers()) && face.contains(m.getName())) {
                    Check.report("a method of its own bears the name " + m.getName());
                }
            }
        }
    }

    /** Names of parameters too, in the order of the document, with nothing public between. */
    private static void asTheDocumentWritesIt() throws IOException {
        if (!Files.exists(DOCUMENT)) {
            System.out.println("without " + DOCUMENT + ", the face is not compared with it");
            return;
        }
        List<String> due = publicParts(Files.readString(DOCUMENT).split("```")[1]);
        List<String> there = publicParts(Files.readString(PROGRAM));
        Check.same("the public parts", String.join("\n", due), String.join("\n", there));
    }

    /** What stands from each 'public' to the end or the body of that part, in one line. */
    private static List<String> publicParts(String text) {
        List<String> parts = new ArrayList<>();
        Matcher found = PUBLIC_PART.matcher(text);
        while (found.find()) {
            parts.add(found.group(1).replaceAll("\\s+", " ").trim());
        }
        return parts;
    }
}
