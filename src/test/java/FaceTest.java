import java.lang.reflect.Constructor;
import java.lang.reflect.Field;
import java.lang.reflect.Method;
import java.lang.reflect.Modifier;
import java.util.HashSet;
import java.util.Set;

/** The public face: every constant, the constructor and every method of the document, and no more. */
public final class FaceTest {
    private static final Set<String> CONSTANTS =
            Set.of("NO_ERROR", "SYNTAX", "OUT_OF_RANGE", "BAD_NAME", "MISPLACED");
    // Each method without the names of its parameters, which are all int.
    private static final String[] METHODS = {
        "int appendInput(int,int,int,int,int)",
        "boolean truncateInput(int)",
        "int loadDrive()",
        "int errorCode()",
        "int errorOffset()",
        "int count(int) throws IllegalArgumentException",
        "int body(int,int) throws IndexOutOfBoundsException,IllegalArgumentException",
        "int part(int,int,int) throws IndexOutOfBoundsException,NoSuchElementException,IllegalArgumentException",
        "int stock(int) throws NoSuchElementException",
        "long numerator(int) throws IndexOutOfBoundsException",
        "long denominator(int) throws IndexOutOfBoundsException",
        "int daysOf(int) throws IllegalArgumentException",
        "int endOf(int) throws IllegalArgumentException",
        "int yearOf(int) throws IllegalArgumentException",
        "long errorBy(int,int) throws IndexOutOfBoundsException,IllegalArgumentException",
        "long error(int,int) throws IndexOutOfBoundsException,IllegalArgumentException",
        "int angle(int,int) throws IndexOutOfBoundsException,IllegalArgumentException",
        "int trueAngle(int,int) throws IndexOutOfBoundsException,IllegalArgumentException",
        "int worst(int) throws IllegalArgumentException",
        "int ranked(int,int) throws IllegalArgumentException,NoSuchElementException",
        "int firstBeyond(int,int) throws IndexOutOfBoundsException,IllegalArgumentException",
        "long totalError(int) throws IllegalArgumentException",
        "long growth(int,int,int) throws IndexOutOfBoundsException,IllegalArgumentException",
        "int bestPair(int,int) throws IndexOutOfBoundsException,IllegalArgumentException",
        "int bestTrain(int,int) throws IndexOutOfBoundsException,IllegalArgumentException",
        "long convergent(int,int,int) throws IndexOutOfBoundsException,IllegalArgumentException",
        "int bestFraction(int,int,int) throws IndexOutOfBoundsException,IllegalArgumentException",
        "int build(int) throws IndexOutOfBoundsException,IllegalStateException",
        "int addPart(int,int,int,int) throws IndexOutOfBoundsException,IllegalArgumentException,IllegalStateException",
        "int removePart(int) throws IndexOutOfBoundsException,IllegalStateException",
        "int addStock(int) throws IllegalArgumentException,IllegalStateException",
        "boolean removeStock(int)",
        "int setSlack(int) throws IllegalArgumentException",
        "int crank(int) throws IllegalArgumentException",
        "int backlash(int) throws IndexOutOfBoundsException",
        "int lag(int) throws IndexOutOfBoundsException",
        "int shown(int) throws IndexOutOfBoundsException",
        "int missing(int) throws IndexOutOfBoundsException",
        "int nextMeeting(int,int,int,int) throws IndexOutOfBoundsException,IllegalArgumentException",
        "double accuracy(int) throws IndexOutOfBoundsException",
        "int improve(int) throws IndexOutOfBoundsException",
        "int swapTrains(int,int) throws IndexOutOfBoundsException,IllegalArgumentException",
        "int copyTrain(int,int) throws IndexOutOfBoundsException,IllegalArgumentException",
        "int worstYear(int,int,int) throws IndexOutOfBoundsException,IllegalArgumentException",
        "long revolutions(int,int) throws IndexOutOfBoundsException,IllegalArgumentException",
        "int leapYears(int,int) throws IllegalArgumentException",
        "long meetingTime(int,int,int) throws IndexOutOfBoundsException,IllegalArgumentException",
        "int aligned(int,int,int) throws IndexOutOfBoundsException,IllegalArgumentException",
        "int uses(int)",
        "float goodShare(int,int) throws IllegalArgumentException",
        "int printErrors(int,int,int,int) throws IndexOutOfBoundsException,IllegalArgumentException",
        "int report(int) throws IllegalArgumentException",
        "int printTrain(int) throws IndexOutOfBoundsException",
        "int outputByte(int)",
        "int undo()",
        "int saveState()",
        "int restoreState() throws IllegalStateException",
    };

    private FaceTest() {
    }

    public static void main(String[] args) {
        Check.equal("modifiers", PlanetDrive.class.getModifiers(), Modifier.PUBLIC | Modifier.FINAL);
        Check.isTrue("no package", PlanetDrive.class.getPackageName().isEmpty());
        fields();
        constructors();
        methods();
        nested();
        Check.end("FaceTest");
    }

    private static void fields() {
        Set<String> left = new HashSet<>(CONSTANTS);
        for (Field field : PlanetDrive.class.getDeclaredFields()) {
            if (!Modifier.isPrivate(field.getModifiers())) {
                Check.isTrue("constant " + field, left.remove(field.getName()));
                Check.equal("modifiers of " + field, field.getModifiers(),
                        Modifier.PUBLIC | Modifier.STATIC | Modifier.FINAL);
                Check.isTrue("type of " + field, field.getType() == int.class);
            }
        }
        Check.equal("constants that are missing", left.toString(), "[]");
    }

    private static void constructors() {
        Constructor<?>[] constructors = PlanetDrive.class.getDeclaredConstructors();
        Check.equal("constructors", constructors.length, 1);
        Check.equal("constructor", constructors[0].toString(), "public PlanetDrive()");
    }

    private static void methods() {
        Set<String> left = new HashSet<>(Set.of(METHODS));
        Set<String> names = new HashSet<>();
        for (String method : METHODS) {
            names.add(method.substring(method.indexOf(' ') + 1, method.indexOf('(')));
        }
        for (Method method : PlanetDrive.class.getDeclaredMethods()) {
            if (Modifier.isPrivate(method.getModifiers())) {
                Check.isFalse("private " + method, names.contains(method.getName()));
            } else {
                String text = method.toString().replaceAll("java\\.(lang|util)\\.|PlanetDrive\\.|^public ", "");
                Check.isTrue("method " + text, left.remove(text));
            }
        }
        Check.equal("methods that are missing", left.toString(), "[]");
    }

    private static void nested() {
        for (Class<?> nested : PlanetDrive.class.getDeclaredClasses()) {
            Check.equal("modifiers of " + nested, nested.getModifiers() & (Modifier.PUBLIC | Modifier.PROTECTED), 0);
            Check.isTrue("static " + nested, Modifier.isStatic(nested.getModifiers()));
        }
    }
}
