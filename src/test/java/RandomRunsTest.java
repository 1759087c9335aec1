import java.lang.reflect.InvocationTargetException;
import java.lang.reflect.Method;
import java.util.ArrayList;
import java.util.Comparator;
import java.util.List;

/** Runs of up to 512 calls, drawn from fixed seeds, on the program and on the model beside it. */
public final class RandomRunsTest {
    private static final int RUNS = 700;
    private static final int CALLS = 512;
    private static final int[] EDGES = {-1, -2, 0, 1, 8, 9, 99, 100, 400, 401, 700, 999, 1000,
        Integer.MAX_VALUE, Integer.MIN_VALUE};
    private static final String[] NAMES = {"a", "b", "ab", "at", "east", "stall", "seller", "abcdef",
        "market", "aa", "ba", "abcdefg"};

    private final List<Method> methods = new ArrayList<>();
    private final StringBuilder story = new StringBuilder();
    private long seed;
    private StallMarket program;
    private Model model;
    private int calls;

    public static void main(String[] args) throws Exception {
        int runs = args.length > 0 ? Integer.parseInt(args[0]) : RUNS;
        RandomRunsTest test = new RandomRunsTest();
        for (int run = 0; run < runs; run++) {
            test.run(run);
        }
        Check.finish("RandomRunsTest");
    }

    private RandomRunsTest() {
        for (Method method : StallMarket.class.getDeclaredMethods()) {
            if (java.lang.reflect.Modifier.isPublic(method.getModifiers())) {
                methods.add(method);
            }
        }
        methods.sort(Comparator.comparing(Method::getName));
    }

    private int below(int bound) {
        seed = seed * 6364136223846793005L + 1442695040888963407L;
        return (int) ((seed >>> 33) % bound);
    }

    private boolean oneIn(int n) {
        return below(n) == 0;
    }

    private void run(int number) throws Exception {
        seed = number * 7919L + 17;
        program = new StallMarket();
        model = new Model();
        calls = 0;
        story.setLength(0);
        boolean readsOften = oneIn(2);
        while (calls < CALLS - 80) {
            int kind = below(readsOften ? 40 : 12);
            if (kind == 0) {
                feed(oneIn(6) ? mutated(setup()) : setup());
                call("loadSetup");
            } else if (kind <= 2) {
                feed(oneIn(4) ? mutated(script()) : script());
                call("runScript");
            } else if (kind == 3) {
                feed(oneIn(2) ? NAMES[below(NAMES.length)] : Check.sellerName(program,
                        below(program.sellerCount())));
                call("findSeller");
            } else if (kind == 4) {
                call("advanceDays", 99);
            } else {
                Method method = methods.get(below(methods.size()));
                if (!method.getName().equals("appendInput") || oneIn(5)) {
                    call(method.getName(), arguments(method));
                }
            }
        }
    }

    private Object[] arguments(Method method) {
        Object[] arguments = new Object[method.getParameterCount()];
        for (int i = 0; i < arguments.length; i++) {
            arguments[i] = argument(method.getName(), i);
        }
        return arguments;
    }

    private int argument(String method, int index) {
        if (oneIn(25)) {
            return EDGES[below(EDGES.length)];
        }
        switch (method) {
            case "appendInput":
                return below(Integer.MAX_VALUE) * 2 + below(2);
            case "truncateInput":
                return below(60);
            case "outputByte":
                return below(40);
            case "advanceDays":
                return 1 + below(oneIn(3) ? 99 : 5);
            case "balanceAfter":
                return index == 0 ? below(program.sellerCount()) : below(401);
            case "deposit":
                return index == 0 ? below(program.sellerCount()) : 1 + below(200);
            case "setRent":
                return index == 0 ? below(program.stallCount()) : below(100);
            case "sellerNameByte": case "stallNameByte":
                return index == 0 ? below(program.stallCount()) : below(8) - 1;
            case "prefers":
                return index == 0 ? below(program.sellerCount()) : below(program.stallCount() + 1) - 1;
            case "preferenceAt":
                return index == 0 ? below(program.sellerCount()) : below(8);
            case "rent": case "occupantOf":
                return below(program.stallCount());
            case "swap": case "wouldSwap": case "envies": case "setPriority":
                return below(program.sellerCount());
            default:
                return index == 0 ? below(program.sellerCount()) : below(program.stallCount());
        }
    }

    private String name(String kind, int index) {
        return oneIn(300) ? NAMES[below(NAMES.length)] : kind + (char) ('a' + index);
    }

    private String setup() {
        StringBuilder text = new StringBuilder("market;");
        int stalls = 1 + below(8) + (oneIn(40) ? 1 : 0);
        int sellers = 1 + below(8) + (oneIn(40) ? 1 : 0);
        for (int stall = 0; stall < stalls; stall++) {
            text.append("stall ").append(name("t", stall)).append(' ')
                    .append(oneIn(3) ? 0 : below(oneIn(60) ? 102 : 20)).append(';');
        }
        int at = below(9);
        boolean shortLists = oneIn(2);
        for (int seller = 0; seller < sellers; seller++) {
            text.append("seller ").append(name("s", seller)).append(' ').append(below(120))
                    .append(' ').append(below(oneIn(60) ? 102 : 20));
            int length = below(shortLists ? 4 : stalls + 1);
            List<Integer> free = new ArrayList<>();
            for (int stall = 0; stall < stalls; stall++) {
                free.add(stall);
            }
            for (int i = 0; i < length && !free.isEmpty(); i++) {
                int stall = free.remove(below(free.size()));
                text.append(' ').append(name("t", oneIn(200) ? 0 : stall));
            }
            if (!oneIn(3)) {
                text.append(" at ").append(name("t", at++ % stalls));
            }
            text.append(';');
            at += oneIn(4) && seller < 2 ? 1 : 0;
        }
        return text.toString();
    }

    private String script() {
        StringBuilder text = new StringBuilder();
        int commands = oneIn(10) ? 18 + below(5) : below(8);
        for (int i = 0; i < commands; i++) {
            String seller = Check.sellerName(program, below(program.sellerCount()));
            String other = Check.sellerName(program, below(program.sellerCount()));
            String stall = Check.stallName(program, below(program.stallCount()));
            switch (below(9)) {
                case 0:
                    text.append("assign ").append(seller).append(' ').append(stall);
                    break;
                case 1:
                    text.append("vacate ").append(seller);
                    break;
                case 2:
                    text.append("swap ").append(seller).append(' ').append(other);
                    break;
                case 3:
                    text.append("reallocate");
                    break;
                case 4:
                    text.append("prefer ").append(seller).append(' ').append(stall);
                    break;
                case 5:
                    text.append("remove ").append(seller).append(' ').append(stall);
                    break;
                case 6:
                    text.append("rent ").append(stall).append(below(oneIn(30) ? 102 : 30));
                    break;
                case 7:
                    text.append("deposit ").append(seller).append(below(oneIn(30) ? 1100 : 50));
                    break;
                default:
                    text.append("days ").append(below(oneIn(10) ? 120 : 6));
                    break;
            }
            text.append(';');
        }
        return text.toString();
    }

    private String mutated(String text) {
        StringBuilder other = new StringBuilder(text);
        int changes = 1 + below(2);
        for (int i = 0; i < changes && other.length() > 0; i++) {
            int at = below(other.length());
            switch (below(5)) {
                case 0:
                    other.deleteCharAt(at);
                    break;
                case 1:
                    other.setLength(at);
                    break;
                case 2:
                    other.insert(at, " ;a1z0\u00ff\0A".charAt(below(9)));
                    break;
                case 3:
                    other.insert(at, " " + NAMES[below(NAMES.length)] + " ");
                    break;
                default:
                    other.setCharAt(at, " ;at90".charAt(below(6)));
                    break;
            }
        }
        return other.toString();
    }

    /** In 20 bytes a call, as far as the buffer takes it. */
    private void feed(String text) throws Exception {
        call("truncateInput", 0);
        String part = text.substring(0, Math.min(text.length(), 700));
        for (int at = 0; at < part.length(); at += 20) {
            call("appendInput", Check.word(part, at), Check.word(part, at + 4),
                    Check.word(part, at + 8), Check.word(part, at + 12), Check.word(part, at + 16));
        }
        call("truncateInput", part.length());
    }

    private static Object answer(Object target, String name, Object[] arguments) throws Exception {
        Class<?>[] types = new Class<?>[arguments.length];
        java.util.Arrays.fill(types, int.class);
        try {
            return target.getClass().getMethod(name, types).invoke(target, arguments);
        } catch (InvocationTargetException e) {
            return e.getCause().getClass();
        }
    }

    private void call(String name, Object... arguments) throws Exception {
        calls++;
        Object want = answer(model, name, arguments);
        Object got = answer(program, name, arguments);
        if (!want.equals(got)) {
            System.out.println("state: " + Check.stateOf(program));
        }
        Check.equal("call " + calls + ", " + name + java.util.Arrays.toString(arguments), want, got);
    }
}
