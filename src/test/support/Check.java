import java.util.ArrayList;
import java.util.List;

/** Asks calls, and tells each answer that is not due with the sentence of the document that it breaks. */
final class Check {
    static final Class<?> INDEX = IndexOutOfBoundsException.class;
    static final Class<?> ARGUMENT = IllegalArgumentException.class;
    static final Class<?> STATE = IllegalStateException.class;

    /** How many calls the parts of an object's state cost at most; with those ahead of them they stay within 512. */
    static final int DEAREST_PART = 257;
    private static final int PARTS = 12;

    interface Made {
        Craterclock clock();
    }

    interface Call {
        long on(Craterclock clock);
    }

    private String sentence = "";
    private int asked = 0;
    private int wrong = 0;

    /** Begins a test of its own: the promise, and the words that it would find broken. */
    void sentence(String words) {
        sentence = words;
    }

    void due(String call, long got, long want) {
        agree(call, String.valueOf(got), String.valueOf(want));
    }

    void fails(String call, Class<?> want, Craterclock clock, Call made) {
        agree(call, outcome(clock, made), want.getSimpleName());
    }

    /** The call throws what is due, and an object that it was made on is afterwards as one that it was not made on. */
    void refused(String call, Class<?> want, Made made, Call wrongCall) {
        fails(call, want, made.clock(), wrongCall);
        same("after " + call, () -> {
            Craterclock clock = made.clock();
            outcome(clock, wrongCall);
            return clock;
        }, states(made));
    }

    void same(String call, Made made, List<String> want) {
        List<String> got = states(made);
        for (int part = 0; part < PARTS; part++) {
            agree(call + ", part " + part, got.get(part), want.get(part));
        }
    }

    /** All that can be asked of an object; each part is asked of a new one, as asking changes it. */
    static List<String> states(Made made) {
        List<String> states = new ArrayList<>();
        for (int part = 0; part < PARTS; part++) {
            StringBuilder told = new StringBuilder();
            tell(told, made.clock(), part);
            states.add(told.toString());
        }
        return states;
    }

    void end() {
        System.out.println(asked + " answers, " + wrong + " of them not as due");
        if (wrong != 0) {
            System.exit(1);
        }
    }

    private void agree(String call, String got, String want) {
        asked++;
        if (!got.equals(want) && wrong++ < 40) {
            System.out.println(sentence + ": " + call + " answered " + got + ", due is " + want);
        }
    }

    static String outcome(Craterclock clock, Call call) {
        try {
            return String.valueOf(call.on(clock));
        } catch (RuntimeException e) {
            return e.getClass().getSimpleName();
        }
    }

    private static void tell(StringBuilder told, Craterclock clock, int part) {
        switch (part) {
            case 0: case 1: case 2: case 3:
                tellCraters(told, clock, (c, n) -> c.about(n, part));
                break;
            case 4:
                tellCraters(told, clock, (c, n) -> c.depthAnew(n));
                break;
            case 5:
                tellCells(told, clock, (c, n) -> c.top(n % 16, n / 16));
                break;
            case 6:
                tellCells(told, clock, (c, n) -> c.topAnew(n % 16, n / 16));
                break;
            case 7:
                tellCells(told, clock, (c, n) -> c.ground(n % 16, n / 16, 0));
                break;
            case 8:
                tellEyes(told, clock);
                break;
            case 9:
                tellUntilRefused(told, clock, c -> c.soften(1));
                break;
            case 10:
                tellUntilRefused(told, clock, c -> c.stone(0, 0, 1));
                break;
            default:
                tellRest(told, clock);
        }
    }

    private interface Numbered {
        long on(Craterclock clock, int number);
    }

    private static void tellCraters(StringBuilder told, Craterclock clock, Numbered call) {
        int many = clock.craters();
        for (int n = 0; n < many; n++) {
            int number = n;
            told.append(outcome(clock, c -> call.on(c, number))).append(' ');
        }
    }

    private static void tellCells(StringBuilder told, Craterclock clock, Numbered call) {
        for (int n = 0; n < 256; n++) {
            int number = n;
            told.append(outcome(clock, c -> call.on(c, number))).append(' ');
        }
    }

    private static void tellEyes(StringBuilder told, Craterclock clock) {
        for (int n = 0; n <= 6; n++) {
            int eye = n;
            told.append(outcome(clock, c -> c.whyNot(eye, 0, 0, 15, 15))).append(' ');
            told.append(outcome(clock, c -> c.age(eye, 0, 0, 15, 15))).append(' ');
            told.append(outcome(clock, c -> c.age(eye, 0, 0, 7, 6))).append(' ');
            told.append(outcome(clock, c -> c.age(eye, 8, 8, 8, 8))).append(' ');
            for (int l = 1; l <= 7; l++) {
                int least = l;
                told.append(outcome(clock, c -> c.count(eye, 0, 0, 15, 15, least))).append(' ');
            }
        }
    }

    private static void tellUntilRefused(StringBuilder told, Craterclock clock, Call call) {
        String answer = "";
        for (int i = 0; i <= 200 && !answer.equals("IllegalStateException"); i++) {
            answer = outcome(clock, call);
            told.append(answer).append(' ');
        }
    }

    private static void tellRest(StringBuilder told, Craterclock clock) {
        told.append(clock.craters()).append(' ');
        tellUntilRefused(told, clock, c -> c.eye(1));
        told.append(outcome(clock, c -> c.anchor(4999999000L, 99999000L))).append(' ');
        for (int i = 0; i < 8; i++) {
            int more = i;
            told.append(outcome(clock, c -> c.anchor(4999999001L + more, 99999001L + more))).append(' ');
        }
        told.append(outcome(clock, c -> c.rain(1))).append(' ');
        told.append(clock.draw(1)).append(' ');
    }
}
