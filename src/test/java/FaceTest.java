import java.lang.reflect.Constructor;
import java.lang.reflect.Field;
import java.lang.reflect.Method;
import java.lang.reflect.Modifier;
import java.util.Arrays;
import java.util.Set;
import java.util.TreeSet;
import java.util.stream.Collectors;

/** The public face: each method as the document prints it, and no other member that can be seen. */
public final class FaceTest {
    private static final String I = "IndexOutOfBoundsException";
    private static final String S = "IllegalStateException";
    private static final String A = "IllegalArgumentException";

    private static final String[] FACE = {
        "int appendInput(int,int,int,int,int) " + S, "int truncateInput(int) " + A,
        "int loadSetup()", "int runScript()", "int errorCode()", "int errorPosition()",
        "int sellerCount()", "int stallCount()", "int day()", "int balance(int) " + I,
        "int income(int) " + I, "int rent(int) " + I, "int stallOf(int) " + I,
        "int occupantOf(int) " + I, "int priorityOf(int) " + I, "int preferenceCount(int) " + I,
        "int preferenceAt(int,int) " + I, "int rankOf(int,int) " + I,
        "boolean prefers(int,int,int) " + I, "int sellerNameByte(int,int) " + I,
        "int stallNameByte(int,int) " + I, "int findSeller()", "int freeStallCount()",
        "boolean envies(int,int) " + I, "boolean wouldSwap(int,int) " + I, "int swapPairCount()",
        "int improvingCycleLength(int) " + I, "int betterFreeStall(int) " + I,
        "boolean isEfficient()", "int blockReason(int,int) " + I, "int allocatedStall(int) " + I,
        "int allocatedIfFirst(int) " + I, "int allocatedIfReported(int,int) " + I,
        "int gainerCount()", "int maximumMatchingSize()", "int leastRankSum()",
        "int daysUntilEviction(int) " + I, "int balanceAfter(int,int) " + I + " " + A,
        "int rentPaid()", "int evictionCount()", "int swapCount()", "int relocationCount()",
        "double meanRank()", "float placedFraction()", "int ledgerDifference()",
        "int assign(int,int) " + I + " " + S, "int vacate(int) " + I + " " + S,
        "int swap(int,int) " + I + " " + S, "int reallocate()",
        "int setPriority(int,int) " + I + " " + A, "int preferFirst(int,int) " + I,
        "int removePreference(int,int) " + I + " " + S, "int setRent(int,int) " + I + " " + A,
        "int deposit(int,int) " + I + " " + A, "int advanceDays(int) " + A + " " + S,
        "int writeAssignment()", "int writePreferences(int) " + I, "int outputByte(int)",
        "int undo()", "int undoCount()", "int save()", "int restore() " + S,
    };

    private static String signature(Method method) {
        String parameters = Arrays.stream(method.getParameterTypes()).map(Class::getSimpleName)
                .collect(Collectors.joining(","));
        String exceptions = Arrays.stream(method.getExceptionTypes()).map(Class::getSimpleName)
                .collect(Collectors.joining(" "));
        return (method.getReturnType() + " " + method.getName() + "(" + parameters + ") "
                + exceptions).trim();
    }

    public static void main(String[] args) {
        Class<?> type = StallMarket.class;
        Check.equal("the class", Modifier.PUBLIC | Modifier.FINAL, type.getModifiers());
        Check.equal("the superclass", Object.class, type.getSuperclass());
        Set<String> seen = new TreeSet<>();
        Set<String> publicNames = new TreeSet<>();
        Set<String> hiddenNames = new TreeSet<>();
        for (Method method : type.getDeclaredMethods()) {
            if (Modifier.isPrivate(method.getModifiers())) {
                hiddenNames.add(method.getName());
            } else {
                Check.equal(method.getName(), Modifier.PUBLIC, method.getModifiers());
                seen.add(signature(method));
                publicNames.add(method.getName());
            }
        }
        Check.equal("the methods", new TreeSet<>(Arrays.asList(FACE)), seen);
        for (Field field : type.getDeclaredFields()) {
            Check.equal("private: " + field, true, Modifier.isPrivate(field.getModifiers()));
            Check.equal("final if static: " + field, true, Modifier.isFinal(field.getModifiers())
                    || !Modifier.isStatic(field.getModifiers()));
        }
        Constructor<?>[] constructors = type.getDeclaredConstructors();
        Check.equal("the number of constructors", 1, constructors.length);
        Check.equal("the constructor", Modifier.PUBLIC, constructors[0].getModifiers());
        Check.equal("its parameters", 0, constructors[0].getParameterCount());
        for (Class<?> inner : type.getDeclaredClasses()) {
            Check.equal("private: " + inner, true, Modifier.isPrivate(inner.getModifiers()));
        }
        hiddenNames.retainAll(publicNames);
        Check.equal("private methods with a public name", Set.of(), hiddenNames);
        Check.finish("FaceTest");
    }
}
