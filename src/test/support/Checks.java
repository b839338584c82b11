import java.util.ArrayList;
import java.util.HashMap;
import java.util.List;
import java.util.Map;
import java.util.NoSuchElementException;

/** What the tests share: calling, comparing, and telling what was wrong. */
abstract class Checks {
    interface Call {
        int run();
    }

    /** A call on a house that is handed in, so that it can be made on more than one. */
    interface Ask {
        int of(SymbolHouse h);
    }

    private record Question(String text, Ask ask) {
    }

    /** The calls that bring a new house into a state. */
    interface State {
        void build(SymbolHouse h);
    }

    static final Class<?> NONE = NoSuchElementException.class;
    static final Class<?> LOCKED = UnsupportedOperationException.class;
    static final Class<?> BAD = IllegalArgumentException.class;
    static final Class<?> CONFLICT = IllegalStateException.class;
    static final Class<?> FULL = IndexOutOfBoundsException.class;

    static final long A = n("a");
    static final long B = n("b");
    static final long C = n("c");
    static final long D = n("d");

    /**
     * 1 (N, M): a 0, b 1, external. 2 (O): a 2, external; c inherited from 3. 3: c 3, external; b 4,
     * shadowing; d 6, without a home; a inherited from 1. 4: a inherited from 2. 0: a 5.
     */
    static final State LIVED = h -> {
        packages(h, 4);
        h.nickname(1, n("N"));
        h.nickname(1, n("M"));
        h.nickname(2, n("O"));
        h.intern(1, A);
        h.intern(1, B);
        h.intern(2, A);
        h.intern(3, C);
        h.shadow(3, B);
        h.intern(0, A);
        h.intern(4, D);
        h.bring(3, 6);
        h.unintern(4, 6);
        h.export(1, 0);
        h.export(1, 1);
        h.export(2, 2);
        h.export(3, 3);
        h.use(3, 1);
        h.use(2, 3);
        h.use(4, 2);
    };
    static final int NEXT_PACKAGE = 5;
    static final int NEXT_SYMBOL = 7;

    /** 1 and 2 have an external a (0, 1) and b (2, 3); 3 uses 1. */
    static final State TWO_SIDES = h -> {
        packages(h, 3);
        h.intern(1, A);
        h.intern(2, A);
        h.intern(1, B);
        h.intern(2, B);
        for (int s = 0; s < 4; s++) {
            h.export(1 + s % 2, s);
        }
        h.use(3, 1);
    };

    /** 2, 3 and 4 use 1, which has a symbol 0; 2 and 4 have one of their own, 1 and 2. */
    static final State THREE_USERS = h -> {
        packages(h, 4);
        h.intern(1, A);
        h.intern(2, A);
        h.intern(4, A);
        h.use(2, 1);
        h.use(3, 1);
        h.use(4, 1);
    };

    /** As LIVED, with all 60 symbols; those behind 6 are in 4. */
    static final State ALL_SYMBOLS = h -> {
        LIVED.build(h);
        fill(h, 4, 60);
    };

    /** As LIVED, with all 10 packages. */
    static final State ALL_PACKAGES = h -> {
        LIVED.build(h);
        for (int p = NEXT_PACKAGE; p <= 9; p++) {
            h.pack(n("P" + p));
        }
    };

    /** A house is good for 512 calls; a state takes less than 250 of them. */
    private static final int QUESTIONS_A_HOUSE = 250;
    private static final int REFUSED_COUNT = 2;

    private static final List<Question> QUESTIONS = questions();
    private static final List<Question> LAST_CALLS = lastCalls();
    private static final Map<State, List<String>> KNOWN = new HashMap<>();
    private static final Map<State, List<State>> CHOSEN = new HashMap<>();

    private static int wrong = 0;
    private static int checked = 0;
    private static String sentence = "";

    static long n(String letters) {
        long name = 0;
        for (int i = letters.length() - 1; i >= 0; i--) {
            name = name << 8 | letters.charAt(i);
        }
        return name;
    }

    /** The packages 1 = P1, 2 = P2, and so on. */
    static void packages(SymbolHouse h, int last) {
        for (int p = 1; p <= last; p++) {
            h.pack(n("P" + p));
        }
    }

    static SymbolHouse house(int lastPackage) {
        SymbolHouse h = new SymbolHouse();
        packages(h, lastPackage);
        return h;
    }

    static SymbolHouse in(State state) {
        SymbolHouse h = new SymbolHouse();
        state.build(h);
        return h;
    }

    static void fill(SymbolHouse h, int p, int upTo) {
        for (int i = h.count(1); i < upTo; i++) {
            h.intern(p, n("fill" + i));
        }
    }

    private static String outcome(Call call) {
        try {
            return Integer.toString(call.run());
        } catch (RuntimeException e) {
            return e.getClass().getSimpleName();
        }
    }

    private static String place() {
        for (StackTraceElement frame : new Throwable().getStackTrace()) {
            if (!frame.getClassName().startsWith("Checks")) {
                return "line " + frame.getLineNumber();
            }
        }
        return "nowhere";
    }

    private static void compare(String got, String due) {
        compare("", got, due);
    }

    private static void compare(String what, String got, String due) {
        checked++;
        if (!got.equals(due)) {
            wrong++;
            System.out.println(sentence + ", " + place() + ": " + what + "answered " + got
                + ", due is " + due);
        }
    }

    static void due(int answer, Call call) {
        compare(outcome(call), Integer.toString(answer));
    }

    static void refused(Class<?> kind, Call call) {
        compare(outcome(call), kind.getSimpleName());
    }

    /** The call is refused, and nothing has changed but what count 2 counts. */
    static void refusedWhole(Class<?> kind, State state, Ask call) {
        compare(outcome(() -> call.of(in(state))), kind.getSimpleName());
        leavesAll(state, call, kind == CONFLICT ? 1 : 0);
    }

    /** Refused and nothing changed, whatever the CHOICE is. */
    static void refusedAlways(Class<?> kind, State state, Ask call) {
        for (State chosen : CHOSEN.computeIfAbsent(state, Checks::withEachChoice)) {
            refusedWhole(kind, chosen, call);
        }
    }

    private static List<State> withEachChoice(State state) {
        List<State> states = new ArrayList<>();
        for (int c = 0; c <= 2; c++) {
            states.add(choosing(c, state));
        }
        return states;
    }

    static State choosing(int c, State state) {
        return h -> {
            state.build(h);
            h.choose(c);
        };
    }

    /** The call answers, and nothing has changed. */
    static void idle(int answer, State state, Ask call) {
        compare(outcome(() -> call.of(in(state))), Integer.toString(answer));
        leavesAll(state, call, 0);
    }

    private static void leavesAll(State state, Ask call, int moreRefused) {
        List<String> before = KNOWN.computeIfAbsent(state, s -> answers(s, h -> 0));
        List<String> after = answers(state, call);
        for (int i = 0; i < before.size(); i++) {
            String due = before.get(i);
            if (i == REFUSED_COUNT) {
                due = Integer.toString(Integer.parseInt(due) + moreRefused);
            }
            compare("afterwards " + text(i) + " ", after.get(i), due);
        }
    }

    private static String text(int i) {
        int last = i - QUESTIONS.size();
        return last < 0 ? QUESTIONS.get(i).text() : LAST_CALLS.get(last).text();
    }

    /** What can be asked of a house in that state after that call, on as many houses as needed. */
    private static List<String> answers(State state, Ask call) {
        List<String> answers = new ArrayList<>();
        SymbolHouse h = null;
        for (int i = 0; i < QUESTIONS.size(); i++) {
            if (i % QUESTIONS_A_HOUSE == 0) {
                h = after(state, call);
            }
            answers.add(answer(QUESTIONS.get(i).ask(), h));
        }
        h = after(state, call);
        for (Question last : LAST_CALLS) {
            answers.add(answer(last.ask(), h));
        }
        return answers;
    }

    private static SymbolHouse after(State state, Ask call) {
        SymbolHouse h = in(state);
        answer(call, h);
        return h;
    }

    private static String answer(Ask call, SymbolHouse h) {
        return outcome(() -> call.of(h));
    }

    /** The counts come first: count 2 is the one that a refused call may change. */
    private static List<Question> questions() {
        List<Question> asks = new ArrayList<>();
        for (int i = 0; i <= 3; i++) {
            int what = i;
            asks.add(new Question("count(" + i + ")", h -> h.count(what)));
        }
        for (int p = 0; p < 10; p++) {
            addPackageQuestions(asks, p);
        }
        for (int s = 0; s < 60; s++) {
            addSymbolQuestions(asks, s);
        }
        for (String letters : new String[] {"K", "P1", "P2", "P3", "P4", "P9", "N", "M", "O", "X"}) {
            asks.add(new Question("find(" + letters + ")", h -> h.find(n(letters))));
        }
        for (String letters : new String[] {"a", "b", "c", "d", "X"}) {
            addNameQuestions(asks, letters);
        }
        return asks;
    }

    private static void addPackageQuestions(List<Question> asks, int p) {
        for (int i = 0; i <= 6; i++) {
            int what = i;
            asks.add(new Question("look(" + p + ", " + i + ")", h -> h.look(p, what)));
        }
        for (int i = 0; i < 60; i++) {
            int k = i;
            asks.add(new Question("listed(" + p + ", " + i + ")", h -> h.listed(p, k)));
        }
    }

    private static void addSymbolQuestions(List<Question> asks, int s) {
        for (int i = 0; i <= 3; i++) {
            int what = i;
            asks.add(new Question("about(" + s + ", " + i + ")", h -> h.about(s, what)));
        }
    }

    private static void addNameQuestions(List<Question> asks, String letters) {
        for (int i = 0; i < 10; i++) {
            int p = i;
            asks.add(new Question("means(" + i + ", " + letters + ")", h -> h.means(p, n(letters))));
        }
        for (int i = 0; i < 5; i++) {
            int k = i;
            asks.add(new Question("all(" + letters + ", " + i + ")", h -> h.all(n(letters), k)));
        }
    }

    /** These change the house, but tell what no question does: the CHOICE, who USES whom. */
    private static List<Question> lastCalls() {
        List<Question> asks = new ArrayList<>();
        asks.add(new Question("choose(0)", h -> h.choose(0)));
        for (int i = 0; i < 10; i++) {
            int p = i;
            for (int j = 0; j < 10; j++) {
                int q = j;
                asks.add(new Question("unuse(" + i + ", " + j + ")", h -> h.unuse(p, q)));
            }
        }
        asks.add(new Question("pack(lastpack)", h -> h.pack(n("lastpack"))));
        asks.add(new Question("intern(0, lastsymb)", h -> h.intern(0, n("lastsymb"))));
        return asks;
    }

    static void sentence(String words, Runnable test) {
        sentence = words;
        try {
            test.run();
        } catch (RuntimeException e) {
            wrong++;
            System.out.println(words + ": a call that prepares the test threw " + e);
            e.printStackTrace(System.out);
        }
    }

    static void finish() {
        System.out.println(checked + " answers checked, " + wrong + " wrong");
        if (wrong != 0) {
            System.exit(1);
        }
    }
}
