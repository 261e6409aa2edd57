import java.io.IOException;
import java.lang.reflect.Constructor;
import java.lang.reflect.Field;
import java.lang.reflect.Method;
import java.lang.reflect.Modifier;
import java.nio.file.Files;
import java.nio.file.Path;
import java.util.Arrays;
import java.util.HashSet;
import java.util.Set;
import java.util.TreeSet;

/** The face is the document's and nothing else; and what LANGUAGE.md rules out and a text search can find. */
public final class FaceTest {
    private static final String INDEX = " IndexOutOfBoundsException";
    private static final String ARGUMENT = " IllegalArgumentException";
    private static final String STATE = " IllegalStateException";

    private static final String[] FACE = {
        "append(int)" + ARGUMENT + STATE,
        "clearText()",
        "errorPosition()",
        "load()" + STATE,
        "about(int)" + ARGUMENT,
        "guestOf(int,int)" + INDEX + ARGUMENT,
        "floorOf(int,int)" + INDEX + ARGUMENT,
        "setting(int)" + ARGUMENT,
        "come(int,int,int,int)" + INDEX + ARGUMENT + STATE,
        "leave(int)" + INDEX,
        "press(int)" + INDEX,
        "rest()",
        "set(int,int)" + ARGUMENT,
        "undo()" + STATE,
        "why(int)" + INDEX,
        "fewest(int)" + ARGUMENT,
        "best()",
        "ifPressed(int,int,int)" + ARGUMENT,
        "leftStanding(int)" + INDEX,
        "runScript(int,long)" + ARGUMENT,
        "simulate(long,int)" + ARGUMENT,
        "save(int)" + INDEX,
        "restore(int)" + INDEX + STATE,
    };

    private static final String[] RULED_OUT = {
        "import ", "package ", "->", "::", "catch", "try", "finally", "synchronized", "assert", "static {",
        "System.out", "System.current", "System.nano", "Random", "Thread", "Exact(", "instanceof",
    };

    public static void main(String[] args) throws IOException {
        classAndConstructor();
        methods();
        fields();
        source(Path.of(args.length > 0 ? args[0] : "src/main/java/ButtonGuests.java"));
        Check.end();
    }

    private static void classAndConstructor() {
        Check.is("modifiers of the class", ButtonGuests.class.getModifiers(), Modifier.PUBLIC | Modifier.FINAL);
        Constructor<?>[] all = ButtonGuests.class.getDeclaredConstructors();
        Check.is("constructors", all.length, 1);
        Check.is("parameters of the constructor", all[0].getParameterCount(), 0);
        Check.is("modifiers of the constructor", all[0].getModifiers(), Modifier.PUBLIC);
        for (Class<?> inside : ButtonGuests.class.getDeclaredClasses()) {
            int modifiers = inside.getModifiers();
            Check.isTrue(inside + " is not public, not protected, static",
                !Modifier.isPublic(modifiers) && !Modifier.isProtected(modifiers) && Modifier.isStatic(modifiers));
        }
    }

    private static void methods() {
        Set<String> got = new TreeSet<>();
        Set<String> publicNames = new HashSet<>();
        for (String due : FACE) {
            publicNames.add(due.substring(0, due.indexOf('(')));
        }
        for (Method method : ButtonGuests.class.getDeclaredMethods()) {
            if (Modifier.isPrivate(method.getModifiers())) {
                Check.isTrue(method + " bears no public name", !publicNames.contains(method.getName()));
                continue;
            }
            Check.is("modifiers of " + method, method.getModifiers(), Modifier.PUBLIC);
            Check.isTrue(method + " returns an int", method.getReturnType() == int.class);
            got.add(signature(method));
        }
        Set<String> due = new TreeSet<>(Arrays.asList(FACE));
        Check.isTrue("the methods are " + got + ", due are " + due + ": that it", got.equals(due));
    }

    private static String signature(Method method) {
        StringBuilder all = new StringBuilder(method.getName()).append('(');
        for (Class<?> type : method.getParameterTypes()) {
            all.append(all.charAt(all.length() - 1) == '(' ? "" : ",").append(type.getName());
        }
        all.append(')');
        for (Class<?> type : method.getExceptionTypes()) {
            all.append(' ').append(type.getSimpleName());
        }
        return all.toString();
    }

    private static void fields() {
        for (Field field : ButtonGuests.class.getDeclaredFields()) {
            if (field.getName().equals("NONE")) {
                Check.is("modifiers of NONE", field.getModifiers(), Modifier.PUBLIC | Modifier.STATIC | Modifier.FINAL);
                Check.isTrue("NONE is an int", field.getType() == int.class);
            } else {
                Check.isTrue(field + " is private", Modifier.isPrivate(field.getModifiers()));
            }
        }
    }

    private static void source(Path file) throws IOException {
        String text = Files.readString(file);
        for (String word : RULED_OUT) {
            Check.isTrue("the source has no '" + word + "': that", !text.contains(word));
        }
        Check.isTrue("the source is ASCII", text.chars().allMatch(c -> c == '\n' || c >= 32 && c < 127));
    }
}
