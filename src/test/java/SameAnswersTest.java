import java.lang.reflect.InvocationTargetException;
import java.lang.reflect.Method;
import java.lang.reflect.Modifier;
import java.util.ArrayList;
import java.util.Collections;
import java.util.List;

/** Long runs of calls, the same ones every time, that AltimeterWatch and PlainWatch must answer alike. */
public final class SameAnswersTest {
    private static final int RUNS = 400;
    private static final int CALLS = 512;

    private static final String[] OFTEN = {"travel", "travel", "travel", "travel", "travel", "setStation", "calibrate",
        "setSea", "setThreshold", "setAlarm", "setAlarm", "setMark", "undo", "undo", "store", "recall", "append", "append",
        "minutesToAlarm", "minutesToAlarm", "ascentIn", "altitudeAfter", "pressureAt", "isAlarm", "alarms", "climbed"};

    private static final List<String> NAMES = names();

    private static final Check CHECK = new Check("SameAnswersTest");

    // A generator of its own, so that the runs are the same on every machine.
    private static long seed = 4369;

    public static void main(String[] args) throws ReflectiveOperationException {
        for (int run = 0; run < RUNS; run++) {
            compare(run);
        }
        CHECK.end();
    }

    /** The names of the face in a fixed order, as reflection promises none. */
    private static List<String> names() {
        List<String> names = new ArrayList<>();
        for (Method method : AltimeterWatch.class.getDeclaredMethods()) {
            if (Modifier.isPublic(method.getModifiers())) {
                names.add(method.getName());
            }
        }
        Collections.sort(names);
        return names;
    }

    private static int below(int bound) {
        seed = seed * 6364136223846793005L + 1442695040888963407L;
        return (int) Long.remainderUnsigned(seed >>> 20, bound);
    }

    private static int from(int least, int most) {
        return least + below(most - least + 1);
    }

    private static void compare(int run) throws ReflectiveOperationException {
        AltimeterWatch watch = new AltimeterWatch();
        PlainWatch plain = new PlainWatch();
        List<String> story = new ArrayList<>();
        int calls = 0;
        while (calls < CALLS) {
            for (Object[] call : next(watch)) {
                if (calls++ >= CALLS) {
                    break;
                }
                String told = told(call);
                story.add(told);
                String got = answer(watch, call);
                String due = answer(plain, call);
                CHECK.due("run " + run + " call " + story.size() + " " + told, got, due);
                if (!got.equals(due)) {
                    System.out.println(String.join(", ", story));
                    return;
                }
            }
        }
    }

    private static String told(Object[] call) {
        StringBuilder told = new StringBuilder(call[0] + "(");
        for (int i = 1; i < call.length; i++) {
            told.append(i > 1 ? ", " : "").append(call[i]);
        }
        return told.append(")").toString();
    }

    private static String answer(Object watch, Object[] call) throws ReflectiveOperationException {
        Object[] arguments = new Object[call.length - 1];
        System.arraycopy(call, 1, arguments, 0, arguments.length);
        try {
            return String.valueOf(method(watch, (String) call[0]).invoke(watch, arguments));
        } catch (InvocationTargetException e) {
            return "throws " + e.getCause().getClass().getName();
        }
    }

    private static Method method(Object watch, String name) {
        for (Method method : watch.getClass().getMethods()) {
            if (method.getName().equals(name)) {
                return method;
            }
        }
        throw new IllegalStateException(name);
    }

    /** The next call or calls: a change, some look at what it changed, or a text and what is done with it. */
    private static List<Object[]> next(AltimeterWatch watch) {
        List<Object[]> calls = new ArrayList<>();
        int kind = below(30);
        if (kind == 0) {
            addText(calls, text());
        } else if (kind == 1) {
            calls.add(new Object[] {"clearText"});
        } else if (kind < 6) {
            calls.add(call(NAMES.get(below(NAMES.size())), watch));
        } else {
            calls.add(call(OFTEN[below(OFTEN.length)], watch));
            if (below(3) == 0) {
                calls.add(new Object[] {"digest"});
            }
        }
        return calls;
    }

    private static Object[] call(String name, AltimeterWatch watch) {
        switch (name) {
            case "travel":
            case "altitudeAfter":
            case "ascentIn":
                return new Object[] {name, number(1, 120), pressure(watch)};
            case "setStation":
                return new Object[] {name, below(3) > 0};
            case "standard":
                return new Object[] {name, number(5000, 11000)};
            case "setSea":
                return new Object[] {name, below(2) == 0 ? number(9000, 10800) : from(10032, 10232)};
            case "calibrate":
            case "pressureAt":
                return new Object[] {name, altitude(watch)};
            case "setThreshold":
                return new Object[] {name, number(10, 500)};
            case "setAlarm":
                return new Object[] {name, below(2) == 0 ? number(10, 200) : from(10, 80)};
            case "minutesToAlarm":
                return new Object[] {name, number(1, 20)};
            case "markTime":
            case "markAltitude":
                return new Object[] {name, number(0, Math.max(0, watch.marks() - 1))};
            case "climbed":
                int last = Math.max(0, watch.marks() - 1);
                return new Object[] {name, number(0, last), number(0, last)};
            case "append":
                return new Object[] {name, below(3) == 0 ? number(33, 126) : (int) "0123456789>;smc".charAt(below(15))};
            case "store":
            case "recall":
                return new Object[] {name, number(0, 1)};
            default:
                return new Object[] {name};
        }
    }

    /** Mostly a number in the range, sometimes one at its ends or outside. */
    private static int number(int least, int most) {
        switch (below(12)) {
            case 0:
                return least;
            case 1:
                return most;
            case 2:
                return below(4) == 0 ? new int[] {least - 1, most + 1, Integer.MIN_VALUE, Integer.MAX_VALUE}[below(4)] : least;
            default:
                return from(least, most);
        }
    }

    private static int pressure(AltimeterWatch watch) {
        switch (below(5)) {
            case 0:
                return number(5000, 11000);
            case 1:
                return from(5000, 5060);
            case 2:
                return watch.pressure();
            default:
                return watch.pressure() + from(-70, 60);
        }
    }

    private static int altitude(AltimeterWatch watch) {
        return below(2) == 0 ? number(-5000, 50000) : watch.altitude() + from(-40, 40);
    }

    private static void addText(List<Object[]> calls, String text) {
        calls.add(new Object[] {"clearText"});
        for (int i = 0; i < text.length(); i++) {
            calls.add(new Object[] {"append", (int) text.charAt(i)});
            if (below(8) == 0) {
                calls.add(new Object[] {"firstError"});
            }
        }
        calls.add(new Object[] {"firstError"});
        calls.add(new Object[] {"run"});
        calls.add(new Object[] {"digest"});
    }

    private static String text() {
        StringBuilder text = new StringBuilder(part());
        while (below(3) > 0 && text.length() < 56) {
            text.append(';').append(part());
        }
        if (below(4) == 0) {
            text.setCharAt(below(text.length()), "0123456789>;smcx".charAt(below(16)));
        }
        return text.toString();
    }

    private static String part() {
        switch (below(6)) {
            case 0:
                return "m";
            case 1:
                return "s";
            case 2:
                return "c" + from(0, below(2) == 0 ? 50010 : 900);
            default:
                return from(1, 121) + ">" + (below(8) == 0 ? from(0, 12000) : from(9500, 10500));
        }
    }
}
