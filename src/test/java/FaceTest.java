import java.lang.reflect.Constructor;
import java.lang.reflect.Field;
import java.lang.reflect.Method;
import java.lang.reflect.Modifier;
import java.util.Arrays;
import java.util.StringJoiner;
import java.util.TreeSet;

/** Checks that the class shows the document's face, and nothing else. */
public final class FaceTest {
    private static final String[] FACE = {
        "int addMember(int,int) IllegalArgumentException IllegalStateException IndexOutOfBoundsException",
        "int memberCount()",
        "int roofOf(int) IndexOutOfBoundsException",
        "int membersOn(int) IndexOutOfBoundsException",
        "int rateOf(int) IndexOutOfBoundsException",
        "int bearingOf(int) IndexOutOfBoundsException",
        "int wagesOf(int) IndexOutOfBoundsException",
        "int supportOf(int) IndexOutOfBoundsException",
        "int lostShifts(int) IndexOutOfBoundsException",
        "float lostDays(int) IndexOutOfBoundsException",
        "int dutiesOf(int) IndexOutOfBoundsException",
        "int memberAtRank(int) NoSuchElementException",
        "int setWind(int,int) IllegalArgumentException",
        "int windDirection()",
        "int windSpeed()",
        "int stepsToWind(int) IndexOutOfBoundsException",
        "int stepsToWindByTurning(int) IndexOutOfBoundsException",
        "int passShifts(int) IllegalArgumentException",
        "int shiftCount()",
        "int day()",
        "int vote(int,boolean) IllegalStateException IndexOutOfBoundsException",
        "int votesFor()",
        "boolean hasVoted(int) IndexOutOfBoundsException",
        "int callStrike() IllegalStateException UnsupportedOperationException",
        "boolean isOnStrike()",
        "int strikeShifts() IllegalStateException",
        "int payIn(int) IllegalArgumentException IllegalStateException",
        "int fund()",
        "int fundedShifts() ArithmeticException",
        "int fundedShiftsByPaying() ArithmeticException",
        "int signUp(int,int) IllegalStateException IndexOutOfBoundsException UnsupportedOperationException",
        "int strikeOff(int) IndexOutOfBoundsException NoSuchElementException",
        "int listLength(int) IndexOutOfBoundsException",
        "int listedAt(int,int) IndexOutOfBoundsException NoSuchElementException",
        "int listOf(int) IndexOutOfBoundsException NoSuchElementException",
        "int makeOffer(int) IllegalArgumentException IllegalStateException",
        "boolean accept(int) IllegalStateException IndexOutOfBoundsException NoSuchElementException",
        "int offerPercent() NoSuchElementException",
        "int acceptances() NoSuchElementException",
        "int offeredRate(int) IndexOutOfBoundsException NoSuchElementException",
        "long wageTotal()",
        "int lostTotal()",
        "int lostTotalByRoofs()",
        "int stepTotal()",
        "int settlementCount()",
        "int append(char) IllegalArgumentException IllegalStateException",
        "int run() IllegalArgumentException IllegalStateException",
        "int errorPosition() NoSuchElementException",
        "int failedCommand() NoSuchElementException",
        "int describeMember(int) IndexOutOfBoundsException",
        "char lineAt(int) IndexOutOfBoundsException",
        "double meanLostDays() ArithmeticException",
        "boolean isConsistent()",
        "int undo() IllegalStateException",
        "int save()",
        "int restore() IllegalStateException",
    };

    public static void main(String[] args) {
        TreeSet<String> due = new TreeSet<>(Arrays.asList(FACE));
        TreeSet<String> found = new TreeSet<>();
        int wrong = 0;
        for (Method method : VaneUnion.class.getDeclaredMethods()) {
            if (Modifier.isPublic(method.getModifiers()) && !Modifier.isStatic(method.getModifiers())) {
                found.add(faceOf(method));
            } else if (!Modifier.isPrivate(method.getModifiers())) {
                wrong += tell("not private: " + method);
            }
        }
        for (String row : due) {
            if (!found.contains(row)) {
                wrong += tell("missing: " + row);
            }
        }
        for (String row : found) {
            if (!due.contains(row)) {
                wrong += tell("not in the document: " + row);
            }
        }
        for (Field field : VaneUnion.class.getDeclaredFields()) {
            if (!Modifier.isPrivate(field.getModifiers())) {
                wrong += tell("not private: " + field);
            }
        }
        wrong += countBorrowedNames();
        Constructor<?>[] constructors = VaneUnion.class.getDeclaredConstructors();
        if (constructors.length != 1 || !Modifier.isPublic(constructors[0].getModifiers())
                || constructors[0].getParameterCount() != 0) {
            wrong += tell("there must be one constructor, public and without parameters");
        }
        if (!Modifier.isFinal(VaneUnion.class.getModifiers()) || !Modifier.isPublic(VaneUnion.class.getModifiers())) {
            wrong += tell("the class must be public and final");
        }
        System.out.println("FaceTest: " + wrong + " wrong");
        if (wrong != 0) {
            System.exit(1);
        }
    }

    /** No method of the inside may bear the name of a method of the face. */
    private static int countBorrowedNames() {
        TreeSet<String> names = new TreeSet<>();
        for (String row : FACE) {
            names.add(row.substring(row.indexOf(' ') + 1, row.indexOf('(')));
        }
        int wrong = 0;
        for (Class<?> inside : VaneUnion.class.getDeclaredClasses()) {
            for (Method method : inside.getDeclaredMethods()) {
                if (names.contains(method.getName())) {
                    wrong += tell("a name of the face: " + method);
                }
            }
        }
        for (Method method : VaneUnion.class.getDeclaredMethods()) {
            if (Modifier.isPrivate(method.getModifiers()) && names.contains(method.getName())) {
                wrong += tell("a name of the face: " + method);
            }
        }
        return wrong;
    }

    private static int tell(String what) {
        System.out.println(what);
        return 1;
    }

    private static String faceOf(Method method) {
        StringJoiner parameters = new StringJoiner(",", "(", ")");
        for (Class<?> type : method.getParameterTypes()) {
            parameters.add(type.getSimpleName());
        }
        TreeSet<String> exceptions = new TreeSet<>();
        for (Class<?> type : method.getExceptionTypes()) {
            exceptions.add(type.getSimpleName());
        }
        String row = method.getReturnType().getSimpleName() + " " + method.getName() + parameters;
        return exceptions.isEmpty() ? row : row + " " + String.join(" ", exceptions);
    }
}
