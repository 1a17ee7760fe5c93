import java.lang.reflect.InvocationTargetException;
import java.lang.reflect.Method;
import java.lang.reflect.Modifier;
import java.lang.reflect.Parameter;
import java.util.ArrayList;
import java.util.Comparator;
import java.util.HashMap;
import java.util.List;
import java.util.Map;
import java.util.Random;

/**
 * Runs of 512 drawn calls, each made on the class and on the model, which must answer alike or throw alike.
 * Every run draws habits of its own: which calls come often, and how large its sums are.
 */
final class ModelTest {
    private static final int RUNS = 1500;
    private static final int CALLS = 512;
    /** What the document says of each argument: its least, its most. Numbers of claims and the like: see numberOf. */
    private static final Map<String, int[]> RANGES = new HashMap<>();
    private static final int[] OFTEN = {0, 1, 1, 2, 4, 8};
    private static final int[] EXTREMES = {
        Integer.MIN_VALUE, -10000, -2, -1, 0, 31, 32, 40, 64, 10000001, Integer.MAX_VALUE
    };

    private final Random random;
    private final Claimclub state = new Claimclub();
    private final Model model = new Model();
    private final List<Method> drawnFrom = new ArrayList<>();
    private final boolean isOfLikeSums;
    private final int mostSum;
    private final boolean isTidy;
    private int claims = 0;
    private int offers = 0;
    private int things = 0;
    private final StringBuilder called = new StringBuilder();

    private ModelTest(long run, List<Method> face) {
        random = new Random(run);
        for (Method method : face) {
            int times = OFTEN[random.nextInt(OFTEN.length)];
            for (int i = 0; i < times; i++) {
                drawnFrom.add(method);
            }
        }
        drawnFrom.add(face.get(random.nextInt(face.size())));
        isOfLikeSums = random.nextInt(3) == 0;
        mostSum = new int[] {20, 1000, 100000, 10000000}[random.nextInt(4)];
        isTidy = random.nextBoolean();
    }

    public static void main(String[] args) {
        tellRanges();
        List<Method> face = face();
        Map<String, Integer> thrown = new HashMap<>();
        Map<String, Integer> answered = new HashMap<>();
        for (int run = 0; run < RUNS; run++) {
            new ModelTest(run, face).run(run, thrown, answered);
        }
        for (Method method : face) {
            Check.same(method.getName() + " answered in some runs", true, answered.containsKey(method.getName()));
            for (Class<?> exception : method.getExceptionTypes()) {
                String refusal = method.getName() + " " + exception.getName();
                Check.same(refusal + " in some runs", true, thrown.containsKey(refusal));
            }
        }
        Check.end("ModelTest");
    }

    private static void tellRanges() {
        String[] told = {
            "claim.kind 0 4", "claim.lender 0 7", "claim.principal 1 1000000", "claim.coupon 0 1000",
            "claim.years 1 30", "claim.rank 0 2", "claim.series 0 3", "pledge.cents 1 1000000",
            "economy.growth -1000 1000", "economy.balance -200 200", "economy.cents 0 10000000",
            "moratorium.kind 0 4", "year.years 1 10", "discount.rate 0 1500", "offer.cut 0 99",
            "offer.coupon 0 1000", "offer.years 1 30", "thing.worth 1 1000000", "programme.amount 1 1000000",
            "programme.target -200 200", "programme.reviews 1 10", "assure.lender 0 7", "value.rate 0 1500",
            "offered.rate 0 1500", "effort.kind 0 4", "passes.series -1 3", "isBearable.years 1 30",
            "ofClaim.what 0 7", "ofState.what 0 4"
        };
        for (String row : told) {
            String[] parts = row.split(" ");
            RANGES.put(parts[0], new int[] {Integer.parseInt(parts[1]), Integer.parseInt(parts[2])});
        }
    }

    private static List<Method> face() {
        List<Method> face = new ArrayList<>();
        for (Method method : Claimclub.class.getDeclaredMethods()) {
            if (Modifier.isPublic(method.getModifiers())) {
                face.add(method);
            }
        }
        // The order in which reflection tells them is not promised, and the runs are to be the same each time.
        face.sort(Comparator.comparing(Method::getName));
        return face;
    }

    // ---- a run

    private void run(int run, Map<String, Integer> thrown, Map<String, Integer> answered) {
        for (int call = 0; call < CALLS; call++) {
            Method method = drawnFrom.get(random.nextInt(drawnFrom.size()));
            Object[] arguments = argumentsOf(method);
            String due = answerOf(model, counterpart(method), arguments);
            String got = answerOf(state, method, arguments);
            called.append('\n').append(method.getName()).append(java.util.Arrays.toString(arguments));
            called.append(" -> ").append(due);
            Check.same("run " + run + ", the last of " + (call + 1) + " calls", due, got);
            if (!due.equals(got)) {
                System.out.println("its calls, as the model answers:" + called);
                return;
            }
            boolean isRefused = due.startsWith("java.");
            (isRefused ? thrown : answered).merge(method.getName() + (isRefused ? " " + due : ""), 1, Integer::sum);
            count(method.getName(), due, isRefused);
        }
    }

    private static Method counterpart(Method method) {
        try {
            return Model.class.getDeclaredMethod(method.getName(), method.getParameterTypes());
        } catch (NoSuchMethodException missing) {
            throw new IllegalStateException(missing);
        }
    }

    private static String answerOf(Object object, Method method, Object[] arguments) {
        try {
            return String.valueOf(method.invoke(object, arguments));
        } catch (InvocationTargetException thrown) {
            Throwable cause = thrown.getCause();
            // What the library throws by itself is no answer of the class, even if it bears the right name.
            String thrower = cause.getStackTrace()[0].getClassName();
            boolean isByItself = thrower.startsWith(object.getClass().getName());
            return cause.getClass().getName() + (isByItself ? "" : " thrown by " + thrower);
        } catch (IllegalAccessException impossible) {
            throw new IllegalStateException(impossible);
        }
    }

    /** Keeps how many there are, so that numbers can be drawn among them and right beside. */
    private void count(String name, String answer, boolean isRefused) {
        if (isRefused) {
            return;
        }
        switch (name) {
            case "claim", "accept" -> claims++;
            case "settle" -> claims += Integer.parseInt(answer);
            case "review" -> claims += answer.equals("0") ? 1 : 0;
            case "offer" -> offers++;
            case "thing" -> things++;
            default -> { }
        }
    }

    // ---- what is drawn

    private Object[] argumentsOf(Method method) {
        Parameter[] parameters = method.getParameters();
        Object[] arguments = new Object[parameters.length];
        for (int i = 0; i < parameters.length; i++) {
            String name = method.getName() + "." + parameters[i].getName();
            if (parameters[i].getType() == boolean.class) {
                arguments[i] = drawnFlag(parameters[i].getName());
            } else {
                arguments[i] = RANGES.containsKey(name) ? drawnWithin(name) : numberOf(parameters[i].getName());
            }
        }
        if (method.getName().equals("claim") && random.nextInt(20) > 0 && !arguments[0].equals(Claimclub.BOND)) {
            arguments[6] = Claimclub.NONE;
        }
        return arguments;
    }

    private boolean drawnFlag(String name) {
        int times = name.equals("isYes") || name.equals("isGiven") ? 3 : 1;
        return random.nextInt(4) < times;
    }

    private int numberOf(String name) {
        int count = name.equals("claim") ? claims : name.equals("offer") ? offers : things;
        int drawn = random.nextInt(40);
        if (drawn == 0) {
            return drawn(EXTREMES);
        }
        return drawn == 1 || count == 0 ? count : drawn == 2 ? -1 : random.nextInt(count);
    }

    private int drawnWithin(String name) {
        int least = RANGES.get(name)[0];
        int most = RANGES.get(name)[1];
        switch (random.nextInt(isTidy ? 400 : 40)) {
            case 0:
                return drawn(EXTREMES);
            case 1:
                return least - 1;
            case 2:
                return most + 1;
            case 3:
                return least;
            case 4:
                return most;
            default:
                return name.equals("year.years") && random.nextInt(8) > 0 ? 1 : drawnSum(least, most);
        }
    }

    private int drawnSum(int least, int most) {
        if (most < 1000000) {
            return least + random.nextInt(most - least + 1);
        }
        // Sums that are alike meet the shares of votes and of reviews exactly.
        return isOfLikeSums ? 100 : least + random.nextInt(Math.min(most, mostSum) - least + 1);
    }

    private int drawn(int[] numbers) {
        return numbers[random.nextInt(numbers.length)];
    }
}
