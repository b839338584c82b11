import java.util.ArrayList;
import java.util.List;
import java.util.NoSuchElementException;
import java.util.Random;
import java.util.TreeMap;
import java.util.TreeSet;

/**
 * Runs of calls, the same ones every time, on a house and on a second model of the document that
 * finds conflicts by doing a thing on a copy and looking at what came of it.
 */
public final class ModelTest {
    private static final int RUNS = 4000;
    private static final int CALLS = 150;

    private static final String[] NAMES = {"a", "b", "ab", "A", "abcdefgh", "K", "c", "a!"};
    private static final long[] BAD_NAMES = {0L, 32L, 127L, -1L, 'a' | 7L << 8, 255L << 56 | 0x61616161616161L};

    private static final class Pack {
        private String name;
        private final List<String> nicknames = new ArrayList<>();
        private final TreeSet<Integer> present = new TreeSet<>();
        private final TreeSet<Integer> external = new TreeSet<>();
        private final TreeSet<Integer> shadowing = new TreeSet<>();
        private final List<Integer> uses = new ArrayList<>();

        private Pack copy() {
            Pack made = new Pack();
            made.name = name;
            made.nicknames.addAll(nicknames);
            made.present.addAll(present);
            made.external.addAll(external);
            made.shadowing.addAll(shadowing);
            made.uses.addAll(uses);
            return made;
        }
    }

    private static final class Model {
        private final TreeMap<Integer, Pack> packs = new TreeMap<>();
        private final List<String> names = new ArrayList<>();
        private final List<Integer> homes = new ArrayList<>();
        private int choice;
        private int refused;
        private int settled;

        private Model() {
            Pack first = new Pack();
            first.name = "K";
            packs.put(0, first);
        }

        private Model copy() {
            Model made = new Model();
            packs.forEach((p, pack) -> made.packs.put(p, pack.copy()));
            made.names.addAll(names);
            made.homes.addAll(homes);
            return made;
        }

        private TreeSet<Integer> inherited(int p) {
            TreeSet<Integer> all = new TreeSet<>();
            for (int q : packs.get(p).uses) {
                all.addAll(packs.get(q).external);
            }
            return all;
        }

        private int meant(int p, String name) {
            for (int s : packs.get(p).present) {
                if (names.get(s).equals(name)) {
                    return s;
                }
            }
            for (int s : inherited(p)) {
                if (names.get(s).equals(name)) {
                    return s;
                }
            }
            return -1;
        }

        private boolean conflict(int p, String name) {
            TreeSet<Integer> all = inherited(p);
            all.addAll(packs.get(p).present);
            all.removeIf(s -> !names.get(s).equals(name));
            for (int s : all) {
                if (packs.get(p).shadowing.contains(s)) {
                    return false;
                }
            }
            return all.size() > 1;
        }

        private boolean anyConflict() {
            for (int p : packs.keySet()) {
                for (String name : names) {
                    if (conflict(p, name)) {
                        return true;
                    }
                }
            }
            return false;
        }

        private void conflictRefused() {
            refused++;
            throw new IllegalStateException();
        }

        private void arrive(int p, int s) {
            if (packs.get(p).present.add(s) && homes.get(s) == -1) {
                homes.set(s, p);
            }
        }

        private void leave(int p, int s) {
            packs.get(p).present.remove(s);
            packs.get(p).external.remove(s);
            packs.get(p).shadowing.remove(s);
            if (homes.get(s) == p) {
                homes.set(s, -1);
            }
        }

        private void seized(int p, int s) {
            for (int other : new ArrayList<>(packs.get(p).present)) {
                if (other != s && names.get(other).equals(names.get(s))) {
                    leave(p, other);
                }
            }
            arrive(p, s);
            packs.get(p).shadowing.add(s);
        }

        private interface Deed {
            void on(Model model);
        }

        private Model after(Deed deed) {
            Model made = copy();
            deed.on(made);
            return made;
        }

        private void doSettled(Deed deed) {
            Model before = copy();
            Model would = after(deed);
            if (choice == 0 && would.anyConflict()) {
                conflictRefused();
            }
            for (int p : packs.keySet()) {
                TreeSet<Integer> newly = would.inherited(p);
                newly.removeAll(before.inherited(p));
                for (int s : newly) {
                    String name = names.get(s);
                    if (after(deed).conflict(p, name)) {
                        seized(p, choice == 1 ? before.meant(p, name) : s);
                        settled++;
                    }
                }
            }
            deed.on(this);
        }

        private int called(String name) {
            for (int p : packs.keySet()) {
                if (packs.get(p).name.equals(name) || packs.get(p).nicknames.contains(name)) {
                    return p;
                }
            }
            return -1;
        }

        private static String read(long name) {
            StringBuilder text = new StringBuilder();
            for (long rest = name; (rest & 255) != 0; rest >>>= 8) {
                text.append((char) (rest & 255));
            }
            for (char c : text.toString().toCharArray()) {
                bad(c < 33 || c > 126);
            }
            bad(text.length() == 0);
            return text.toString();
        }

        private void none(boolean so) {
            if (so) {
                throw new NoSuchElementException();
            }
        }

        private void nonePack(int p) {
            none(!packs.containsKey(p));
        }

        private void noneSymbol(int s) {
            none(s < 0 || s >= names.size());
        }

        private void locked(int p) {
            if (p == 0) {
                throw new UnsupportedOperationException();
            }
        }

        private static void bad(boolean so) {
            if (so) {
                throw new IllegalArgumentException();
            }
        }

        private static void full(boolean so) {
            if (so) {
                throw new IndexOutOfBoundsException();
            }
        }

        private int pack(long name) {
            String text = read(name);
            bad(called(text) != -1);
            full(packs.size() == 10);
            int p = 0;
            while (packs.containsKey(p)) {
                p++;
            }
            Pack made = new Pack();
            made.name = text;
            packs.put(p, made);
            return p;
        }

        private int nickname(int p, long name) {
            nonePack(p);
            locked(p);
            String text = read(name);
            bad(called(text) != -1);
            full(packs.get(p).nicknames.size() == 2);
            packs.get(p).nicknames.add(text);
            return packs.get(p).nicknames.size();
        }

        private int rename(int p, long name) {
            nonePack(p);
            locked(p);
            String text = read(name);
            bad(called(text) != -1 && called(text) != p);
            packs.get(p).name = text;
            packs.get(p).nicknames.clear();
            return 1;
        }

        private int drop(int p) {
            nonePack(p);
            locked(p);
            for (Pack pack : packs.values()) {
                if (pack.uses.contains(p)) {
                    conflictRefused();
                }
            }
            int present = packs.get(p).present.size();
            homes.replaceAll(home -> home == p ? -1 : home);
            packs.remove(p);
            return present;
        }

        private int find(long name) {
            int p = called(read(name));
            none(p == -1);
            return p;
        }

        private int choose(int c) {
            bad(c < 0 || c > 2);
            int was = choice;
            choice = c;
            return was;
        }

        private int use(int p, int q) {
            nonePack(p);
            nonePack(q);
            locked(p);
            bad(p == q || q == 0);
            if (packs.get(p).uses.contains(q)) {
                return 0;
            }
            doSettled(model -> model.packs.get(p).uses.add(q));
            return 1;
        }

        private int unuse(int p, int q) {
            nonePack(p);
            nonePack(q);
            locked(p);
            return packs.get(p).uses.remove(Integer.valueOf(q)) ? 1 : 0;
        }

        private int made(int p, String name) {
            full(names.size() == 60);
            names.add(name);
            homes.add(-1);
            arrive(p, names.size() - 1);
            return names.size() - 1;
        }

        private int intern(int p, long name) {
            nonePack(p);
            String text = read(name);
            if (meant(p, text) != -1) {
                return meant(p, text);
            }
            int s = made(p, text);
            if (p == 0) {
                packs.get(p).external.add(s);
            }
            return s;
        }

        private int means(int p, long name) {
            nonePack(p);
            int s = meant(p, read(name));
            if (s == -1) {
                return -1;
            }
            Pack pack = packs.get(p);
            int kind = !pack.present.contains(s) ? 300 : pack.external.contains(s) ? 200 : 100;
            return s + kind + (pack.shadowing.contains(s) ? 1000 : 0);
        }

        private int export(int p, int s) {
            nonePack(p);
            noneSymbol(s);
            locked(p);
            bad(meant(p, names.get(s)) != s);
            if (packs.get(p).external.contains(s)) {
                return 0;
            }
            doSettled(model -> {
                model.arrive(p, s);
                model.packs.get(p).external.add(s);
            });
            return 1;
        }

        private int unexport(int p, int s) {
            nonePack(p);
            noneSymbol(s);
            locked(p);
            return packs.get(p).external.remove(s) ? 1 : 0;
        }

        private int bring(int p, int s) {
            nonePack(p);
            noneSymbol(s);
            locked(p);
            int meant = meant(p, names.get(s));
            if (meant != -1 && meant != s) {
                conflictRefused();
            }
            int answer = packs.get(p).present.contains(s) ? 0 : 1;
            arrive(p, s);
            return answer;
        }

        private int seize(int p, int s) {
            nonePack(p);
            noneSymbol(s);
            locked(p);
            if (packs.get(p).present.contains(s) && packs.get(p).shadowing.contains(s)) {
                return 0;
            }
            seized(p, s);
            return 1;
        }

        private int shadow(int p, long name) {
            nonePack(p);
            locked(p);
            String text = read(name);
            int meant = meant(p, text);
            int s = packs.get(p).present.contains(meant) ? meant : made(p, text);
            packs.get(p).shadowing.add(s);
            return s;
        }

        private int unintern(int p, int s) {
            nonePack(p);
            noneSymbol(s);
            locked(p);
            if (!packs.get(p).present.contains(s)) {
                return 0;
            }
            if (after(model -> model.leave(p, s)).anyConflict()) {
                conflictRefused();
            }
            leave(p, s);
            return 1;
        }

        private int listed(int p, int k) {
            nonePack(p);
            TreeSet<String> sorted = new TreeSet<>();
            for (String name : names) {
                if (meant(p, name) != -1) {
                    sorted.add(name);
                }
            }
            full(k < 0 || k >= sorted.size());
            return meant(p, new ArrayList<>(sorted).get(k));
        }

        private int all(long name, int k) {
            String text = read(name);
            TreeSet<Integer> found = new TreeSet<>();
            packs.values().forEach(pack -> found.addAll(pack.present));
            found.removeIf(s -> !names.get(s).equals(text));
            full(k < 0 || k >= found.size());
            return new ArrayList<>(found).get(k);
        }

        private int about(int s, int what) {
            noneSymbol(s);
            bad(what < 0 || what > 3);
            int present = 0;
            int meaning = 0;
            for (int p : packs.keySet()) {
                present += packs.get(p).present.contains(s) ? 1 : 0;
                meaning += meant(p, names.get(s)) == s ? 1 : 0;
            }
            return new int[] {homes.get(s), names.get(s).length(), present, meaning}[what];
        }

        private int look(int p, int what) {
            nonePack(p);
            bad(what < 0 || what > 6);
            Pack pack = packs.get(p);
            TreeSet<Integer> heard = inherited(p);
            heard.removeIf(s -> meant(p, names.get(s)) != s);
            int users = 0;
            for (Pack other : packs.values()) {
                users += other.uses.contains(p) ? 1 : 0;
            }
            return new int[] {pack.present.size(), pack.external.size(), pack.shadowing.size(),
                heard.size(), pack.uses.size(), users, pack.nicknames.size()}[what];
        }

        private int count(int what) {
            bad(what < 0 || what > 3);
            return new int[] {packs.size(), names.size(), refused, settled}[what];
        }
    }

    /** The numbers that a call is made with: which of them it takes depends on the call. */
    private record Step(int call, int p, int x, long name) {
    }

    private static final String[] CALL_NAMES = {"pack", "nickname", "rename", "drop", "find", "choose",
        "use", "unuse", "intern", "means", "export", "unexport", "bring", "seize", "shadow",
        "unintern", "listed", "all", "about", "look", "count"};

    private static int onHouse(SymbolHouse h, Step t) {
        return switch (t.call) {
            case 0 -> h.pack(t.name);
            case 1 -> h.nickname(t.p, t.name);
            case 2 -> h.rename(t.p, t.name);
            case 3 -> h.drop(t.p);
            case 4 -> h.find(t.name);
            case 5 -> h.choose(t.x);
            case 6 -> h.use(t.p, t.x);
            case 7 -> h.unuse(t.p, t.x);
            case 8 -> h.intern(t.p, t.name);
            case 9 -> h.means(t.p, t.name);
            case 10 -> h.export(t.p, t.x);
            case 11 -> h.unexport(t.p, t.x);
            case 12 -> h.bring(t.p, t.x);
            case 13 -> h.seize(t.p, t.x);
            case 14 -> h.shadow(t.p, t.name);
            case 15 -> h.unintern(t.p, t.x);
            case 16 -> h.listed(t.p, t.x);
            case 17 -> h.all(t.name, t.x);
            case 18 -> h.about(t.p, t.x);
            case 19 -> h.look(t.p, t.x);
            default -> h.count(t.x);
        };
    }

    private static int onModel(Model m, Step t) {
        return switch (t.call) {
            case 0 -> m.pack(t.name);
            case 1 -> m.nickname(t.p, t.name);
            case 2 -> m.rename(t.p, t.name);
            case 3 -> m.drop(t.p);
            case 4 -> m.find(t.name);
            case 5 -> m.choose(t.x);
            case 6 -> m.use(t.p, t.x);
            case 7 -> m.unuse(t.p, t.x);
            case 8 -> m.intern(t.p, t.name);
            case 9 -> m.means(t.p, t.name);
            case 10 -> m.export(t.p, t.x);
            case 11 -> m.unexport(t.p, t.x);
            case 12 -> m.bring(t.p, t.x);
            case 13 -> m.seize(t.p, t.x);
            case 14 -> m.shadow(t.p, t.name);
            case 15 -> m.unintern(t.p, t.x);
            case 16 -> m.listed(t.p, t.x);
            case 17 -> m.all(t.name, t.x);
            case 18 -> m.about(t.p, t.x);
            case 19 -> m.look(t.p, t.x);
            default -> m.count(t.x);
        };
    }

    private interface Call {
        int run();
    }

    private static String outcome(Call call) {
        try {
            return Integer.toString(call.run());
        } catch (RuntimeException e) {
            return e.getClass().getSimpleName();
        }
    }

    private static int wrong = 0;
    private static final int[] worked = new int[CALL_NAMES.length];
    private static final int[] threw = new int[CALL_NAMES.length];

    private static boolean same(int run, SymbolHouse house, Model model, Step step) {
        String got = outcome(() -> onHouse(house, step));
        String due = outcome(() -> onModel(model, step));
        (due.endsWith("Exception") ? threw : worked)[step.call]++;
        if (got.equals(due)) {
            return true;
        }
        wrong++;
        System.out.println("run " + run + ": " + CALL_NAMES[step.call] + " with " + step
            + " answered " + got + ", due is " + due);
        return false;
    }

    private static long packed(String letters) {
        long name = 0;
        for (int i = letters.length() - 1; i >= 0; i--) {
            name = name << 8 | letters.charAt(i);
        }
        return name;
    }

    private static long anyName(Random random) {
        if (random.nextInt(25) == 0) {
            return BAD_NAMES[random.nextInt(BAD_NAMES.length)];
        }
        // The first names come most often, so that conflicts are many.
        long name = packed(NAMES[random.nextInt(1 + random.nextInt(NAMES.length))]);
        return random.nextInt(25) == 0 && name < 1L << 40 ? name | (long) random.nextInt() << 48 : name;
    }

    private static long packageName(Random random) {
        return random.nextInt(20) == 0 ? anyName(random) : packed("P" + random.nextInt(14));
    }

    private static int anyPackage(Random random) {
        return random.nextInt(15) == 0 ? random.nextInt(13) - 1 : 1 + random.nextInt(5);
    }

    private static int anySymbol(Random random, Model model) {
        return random.nextInt(25) == 0 ? random.nextInt(63) - 1 : random.nextInt(Math.max(1, model.names.size()));
    }

    private static final int[] OFTEN = {0, 5, 6, 6, 6, 7, 8, 8, 8, 8, 9, 10, 10, 10, 10, 11, 12, 12, 13, 14, 15, 15, 16};

    private static Step anyStep(Random random, Model model) {
        int call = random.nextInt(3) == 0 ? random.nextInt(CALL_NAMES.length) : OFTEN[random.nextInt(OFTEN.length)];
        int p = anyPackage(random);
        long name = call <= 4 ? packageName(random) : anyName(random);
        return switch (call) {
            case 5 -> new Step(call, p, random.nextInt(10) == 0 ? random.nextInt(9) - 3 : random.nextInt(3), name);
            case 6, 7 -> new Step(call, p, anyPackage(random), name);
            case 10, 11, 12, 13, 15 -> new Step(call, p, anySymbol(random, model), name);
            case 18 -> new Step(call, anySymbol(random, model), random.nextInt(6) - 1, name);
            default -> new Step(call, p, random.nextInt(9) - 1, name);
        };
    }

    private static boolean sameInAll(int run, SymbolHouse house, Model model) {
        boolean same = true;
        for (int p = 0; p < 10; p++) {
            for (int i = 0; i < 4; i++) {
                same &= same(run, house, model, new Step(9, p, 0, packed(NAMES[i])));
            }
            for (int what = 0; what <= 6; what++) {
                same &= same(run, house, model, new Step(19, p, what, 0L));
            }
        }
        for (int s = 0; s < model.names.size(); s++) {
            for (int what = 0; what <= 3; what++) {
                same &= same(run, house, model, new Step(18, s, what, 0L));
            }
        }
        for (int what = 0; what <= 3; what++) {
            same &= same(run, house, model, new Step(20, 0, what, 0L));
        }
        return same;
    }

    private static void run(int run) {
        Random random = new Random(run);
        SymbolHouse house = new SymbolHouse();
        Model model = new Model();
        int packages = 2 + random.nextInt(5);
        for (int p = 0; p < packages; p++) {
            same(run, house, model, new Step(0, 0, 0, packed("P" + p)));
        }
        // A house is good for 512 calls: these and the last look at all of it are fewer.
        for (int i = 0; i < CALLS; i++) {
            if (!same(run, house, model, anyStep(random, model))) {
                return;
            }
            if (model.anyConflict()) {
                wrong++;
                System.out.println("run " + run + ": the model itself has a conflict");
                return;
            }
        }
        sameInAll(run, house, model);
    }

    private static void checkThatRunsReachAll() {
        for (int call = 0; call < CALL_NAMES.length; call++) {
            if (worked[call] < 100 || threw[call] < 100) {
                wrong++;
                System.out.println("the runs hardly reach " + CALL_NAMES[call]);
            }
        }
    }

    public static void main(String[] args) {
        for (int run = 1; run <= RUNS && wrong < 20; run++) {
            run(run);
        }
        if (wrong == 0) {
            checkThatRunsReachAll();
        }
        System.out.println(RUNS + " runs, " + wrong + " wrong");
        if (wrong != 0) {
            System.exit(1);
        }
    }
}
