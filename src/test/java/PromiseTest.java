/** One method for each promise of the document; each makes houses of its own. */
public final class PromiseTest extends Checks {
    private static void newObject() {
        SymbolHouse h = new SymbolHouse();
        due(1, () -> h.count(0));
        due(0, () -> h.count(1));
        due(0, () -> h.count(2));
        due(0, () -> h.count(3));
        due(0, () -> h.find(n("K")));
        for (int what = 0; what <= 6; what++) {
            int w = what;
            due(0, () -> h.look(0, w));
        }
        refused(NONE, () -> h.look(1, 0));
        refused(NONE, () -> h.about(0, 0));
        due(0, () -> h.choose(0));
    }

    private static void packages() {
        SymbolHouse h = new SymbolHouse();
        due(1, () -> h.pack(n("P")));
        due(0, () -> h.look(1, 4));
        due(2, () -> h.pack(n("Q")));
        refused(BAD, () -> h.pack(n("P")));
        refused(BAD, () -> h.pack(n("K")));
        h.nickname(1, n("N"));
        refused(BAD, () -> h.pack(n("N")));
        refused(BAD, () -> h.pack(0L));
        refused(BAD, () -> h.pack(32L));
        refused(BAD, () -> h.pack(127L));
        refused(BAD, () -> h.pack(-1L));
        refused(BAD, () -> h.pack(n("ab ")));
        refused(BAD, () -> h.pack(n("abcdefg") | 128L << 56));
        refused(BAD, () -> h.pack((long) 'a' << 8));
        due(3, () -> h.pack(33L));
        due(4, () -> h.pack(126L));
        due(5, () -> h.pack(n("~~~~~~~~")));
        due(5, () -> h.find(n("~~~~~~~~")));
        h.drop(1);
        h.drop(3);
        due(1, () -> h.pack(n("P")));
        due(3, () -> h.pack(n("R")));
        due(6, () -> h.pack(n("S6")));
        due(7, () -> h.pack(n("S7")));
        due(8, () -> h.pack(n("S8")));
        due(9, () -> h.pack(n("S9")));
        refused(BAD, () -> h.pack(n("P")));
        refused(BAD, () -> h.pack(0L));
        refused(FULL, () -> h.pack(n("T")));
        due(10, () -> h.count(0));
        h.drop(4);
        due(4, () -> h.pack(n("T")));
    }

    private static void namesEndAtTheFirstZero() {
        SymbolHouse h = new SymbolHouse();
        long behind = 0x0700_0000_0000_0000L;
        due(1, () -> h.pack(n("P") | behind));
        due(1, () -> h.find(n("P")));
        refused(BAD, () -> h.pack(n("P") | (long) 'x' << 16));
        due(0, () -> h.intern(1, A | behind));
        due(0, () -> h.intern(1, A));
        due(100, () -> h.means(1, A | -1L << 16));
        due(1, () -> h.about(0, 1));
        due(0, () -> h.all(A | behind, 0));
    }

    private static void nicknames() {
        SymbolHouse h = house(2);
        due(1, () -> h.nickname(1, n("N")));
        refused(BAD, () -> h.nickname(1, n("N")));
        refused(BAD, () -> h.nickname(1, n("P1")));
        refused(BAD, () -> h.nickname(2, n("N")));
        refused(BAD, () -> h.nickname(2, n("P1")));
        refused(BAD, () -> h.nickname(2, n("K")));
        refused(BAD, () -> h.nickname(2, 0L));
        due(2, () -> h.nickname(1, n("M")));
        due(1, () -> h.nickname(2, n("O")));
        due(1, () -> h.find(n("N")));
        due(1, () -> h.find(n("M")));
        due(1, () -> h.find(n("P1")));
        due(2, () -> h.look(1, 6));
        refused(FULL, () -> h.nickname(1, n("X")));
        refused(BAD, () -> h.nickname(1, n("M")));
        refused(BAD, () -> h.nickname(1, 0L));
        refused(LOCKED, () -> h.nickname(0, n("X")));
        refused(LOCKED, () -> h.nickname(0, 0L));
        refused(NONE, () -> h.nickname(3, n("X")));
        refused(NONE, () -> h.nickname(-1, 0L));
        refused(NONE, () -> h.nickname(10, n("X")));
        refused(NONE, () -> h.find(n("X")));
        h.drop(1);
        due(2, () -> h.nickname(2, n("M")));
        due(1, () -> h.pack(n("N")));
        due(0, () -> h.look(1, 6));
    }

    private static void renames() {
        SymbolHouse h = house(2);
        h.nickname(1, n("N"));
        h.nickname(1, n("M"));
        h.nickname(2, n("O"));
        refused(BAD, () -> h.rename(1, n("P2")));
        refused(BAD, () -> h.rename(1, n("O")));
        refused(BAD, () -> h.rename(1, n("K")));
        refused(BAD, () -> h.rename(1, 0L));
        due(1, () -> h.find(n("M")));
        due(1, () -> h.rename(1, n("M")));
        due(0, () -> h.look(1, 6));
        due(1, () -> h.find(n("M")));
        refused(NONE, () -> h.find(n("N")));
        refused(NONE, () -> h.find(n("P1")));
        h.nickname(1, n("N"));
        due(1, () -> h.rename(1, n("M")));
        due(0, () -> h.look(1, 6));
        due(1, () -> h.rename(1, n("New")));
        refused(NONE, () -> h.find(n("M")));
        due(1, () -> h.rename(2, n("P1")));
        refused(LOCKED, () -> h.rename(0, n("X")));
        refused(LOCKED, () -> h.rename(0, 0L));
        refused(NONE, () -> h.rename(3, 0L));
        refused(NONE, () -> h.rename(-1, n("X")));
    }

    private static void drops() {
        SymbolHouse h = house(3);
        h.intern(1, A);
        h.intern(1, B);
        h.bring(2, 0);
        h.export(1, 1);
        h.shadow(1, A);
        h.use(1, 2);
        h.use(3, 1);
        refused(CONFLICT, () -> h.drop(1));
        due(1, () -> h.count(2));
        due(1, () -> h.find(n("P1")));
        due(1, () -> h.about(0, 0));
        h.choose(2);
        refused(CONFLICT, () -> h.drop(1));
        due(2, () -> h.count(2));
        h.unuse(3, 1);
        due(2, () -> h.drop(1));
        due(3, () -> h.count(0));
        due(-1, () -> h.about(0, 0));
        due(-1, () -> h.about(1, 0));
        due(1, () -> h.about(0, 2));
        due(0, () -> h.about(1, 2));
        due(2, () -> h.count(1));
        due(0, () -> h.look(2, 5));
        refused(NONE, () -> h.drop(1));
        refused(NONE, () -> h.find(n("P1")));
        due(1, () -> h.pack(n("New")));
        for (int what = 0; what <= 6; what++) {
            int w = what;
            due(0, () -> h.look(1, w));
        }
        due(1, () -> h.drop(2));
        due(0, () -> h.drop(3));
        refused(LOCKED, () -> h.drop(0));
        refused(NONE, () -> h.drop(-1));
        refused(NONE, () -> h.drop(10));
    }

    private static void finds() {
        SymbolHouse h = house(1);
        h.nickname(1, n("N"));
        due(0, () -> h.find(n("K")));
        due(1, () -> h.find(n("P1")));
        due(1, () -> h.find(n("N")));
        refused(NONE, () -> h.find(n("P")));
        refused(NONE, () -> h.find(n("P11")));
        refused(NONE, () -> h.find(n("k")));
        refused(BAD, () -> h.find(0L));
        refused(BAD, () -> h.find(n(" ")));
        refused(BAD, () -> h.find(127L << 8 | 'P'));
    }

    private static void chooses() {
        SymbolHouse h = new SymbolHouse();
        due(0, () -> h.choose(1));
        due(1, () -> h.choose(2));
        due(2, () -> h.choose(2));
        refused(BAD, () -> h.choose(3));
        refused(BAD, () -> h.choose(-1));
        due(2, () -> h.choose(0));
        due(0, () -> h.choose(0));
    }

    private static void uses() {
        SymbolHouse h = in(TWO_SIDES);
        due(300, () -> h.means(3, A));
        due(302, () -> h.means(3, B));
        due(0, () -> h.use(3, 1));
        due(1, () -> h.look(3, 4));
        due(1, () -> h.look(1, 5));
        refused(CONFLICT, () -> h.use(3, 2));
        due(1, () -> h.look(3, 4));
        due(300, () -> h.means(3, A));
        due(1, () -> h.count(2));
        due(0, () -> h.count(3));
        due(1, () -> h.use(1, 3));
        refused(BAD, () -> h.use(3, 3));
        refused(BAD, () -> h.use(3, 0));
        refused(LOCKED, () -> h.use(0, 1));
        refused(LOCKED, () -> h.use(0, 0));
        refused(NONE, () -> h.use(0, 4));
        refused(NONE, () -> h.use(4, 0));
        refused(NONE, () -> h.use(4, 4));
        refused(NONE, () -> h.use(3, -1));
        due(1, () -> h.count(2));
        SymbolHouse same = house(3);
        same.intern(1, A);
        same.export(1, 0);
        same.bring(2, 0);
        same.export(2, 0);
        due(1, () -> same.use(3, 1));
        due(1, () -> same.use(3, 2));
        due(300, () -> same.means(3, A));
    }

    private static void usesKeepingOld() {
        SymbolHouse h = in(TWO_SIDES);
        h.choose(1);
        due(1, () -> h.use(3, 2));
        due(1100, () -> h.means(3, A));
        due(1102, () -> h.means(3, B));
        due(2, () -> h.count(3));
        due(0, () -> h.count(2));
        due(1, () -> h.about(0, 0));
        due(2, () -> h.look(3, 4));
    }

    private static void usesTakingNew() {
        SymbolHouse h = in(TWO_SIDES);
        h.choose(2);
        h.intern(3, C);
        due(1, () -> h.use(3, 2));
        due(1101, () -> h.means(3, A));
        due(1103, () -> h.means(3, B));
        due(104, () -> h.means(3, C));
        due(2, () -> h.count(3));
        due(2, () -> h.about(1, 0));
        SymbolHouse own = house(3);
        own.intern(1, A);
        own.intern(2, A);
        own.export(1, 0);
        own.export(2, 1);
        own.use(3, 1);
        due(300, () -> own.means(3, A));
        own.choose(2);
        due(1, () -> own.use(1, 2));
        due(1101, () -> own.means(1, A));
        due(-1, () -> own.about(0, 0));
        due(-1, () -> own.means(3, A));
    }

    private static void usesWhatIsShadowed() {
        SymbolHouse h = house(2);
        h.intern(1, A);
        h.export(1, 0);
        h.intern(2, A);
        refused(CONFLICT, () -> h.use(2, 1));
        h.shadow(2, A);
        due(1, () -> h.use(2, 1));
        due(1101, () -> h.means(2, A));
        due(0, () -> h.count(3));
    }

    private static void unuses() {
        SymbolHouse h = in(TWO_SIDES);
        h.choose(1);
        h.use(3, 2);
        due(1, () -> h.unuse(3, 1));
        due(0, () -> h.unuse(3, 1));
        due(1, () -> h.look(3, 4));
        due(0, () -> h.look(1, 5));
        due(1100, () -> h.means(3, A));
        due(1, () -> h.unintern(3, 0));
        due(301, () -> h.means(3, A));
        due(1, () -> h.unuse(3, 2));
        due(-1, () -> h.means(3, A));
        due(0, () -> h.unuse(3, 3));
        due(0, () -> h.unuse(3, 0));
        refused(LOCKED, () -> h.unuse(0, 1));
        refused(NONE, () -> h.unuse(0, 4));
        refused(NONE, () -> h.unuse(4, 1));
        refused(NONE, () -> h.unuse(3, -1));
    }

    private static void interns() {
        SymbolHouse h = house(2);
        due(0, () -> h.intern(1, A));
        due(0, () -> h.intern(1, A));
        due(100, () -> h.means(1, A));
        due(1, () -> h.about(0, 0));
        h.export(1, 0);
        h.use(2, 1);
        due(0, () -> h.intern(2, A));
        due(300, () -> h.means(2, A));
        due(1, () -> h.intern(2, B));
        due(2, () -> h.intern(0, A));
        due(202, () -> h.means(0, A));
        due(0, () -> h.about(2, 0));
        refused(BAD, () -> h.intern(1, 0L));
        refused(BAD, () -> h.intern(0, n("a\177")));
        refused(NONE, () -> h.intern(3, A));
        refused(NONE, () -> h.intern(-1, 0L));
        fill(h, 1, 60);
        due(60, () -> h.count(1));
        due(0, () -> h.intern(2, A));
        due(59, () -> h.intern(1, n("fill59")));
        refused(FULL, () -> h.intern(1, C));
        refused(FULL, () -> h.intern(0, C));
        refused(BAD, () -> h.intern(1, 0L));
        due(60, () -> h.count(1));
        due(-1, () -> h.means(1, C));
        h.unintern(1, 59);
        refused(FULL, () -> h.intern(1, C));
    }

    private static void meanings() {
        SymbolHouse h = house(2);
        due(-1, () -> h.means(1, A));
        h.intern(1, A);
        due(100, () -> h.means(1, A));
        h.export(1, 0);
        due(200, () -> h.means(1, A));
        h.shadow(1, A);
        due(1200, () -> h.means(1, A));
        h.use(2, 1);
        due(300, () -> h.means(2, A));
        h.bring(2, 0);
        due(100, () -> h.means(2, A));
        h.shadow(2, A);
        due(1100, () -> h.means(2, A));
        fill(h, 1, 60);
        due(159, () -> h.means(1, n("fill59")));
        due(-1, () -> h.means(2, n("fill59")));
        due(-1, () -> h.means(0, A));
        refused(BAD, () -> h.means(1, 0L));
        refused(NONE, () -> h.means(3, A));
        refused(NONE, () -> h.means(-1, 0L));
    }

    private static void exports() {
        SymbolHouse h = house(4);
        h.intern(1, A);
        due(1, () -> h.export(1, 0));
        due(0, () -> h.export(1, 0));
        due(200, () -> h.means(1, A));
        h.use(2, 1);
        due(1, () -> h.export(2, 0));
        due(200, () -> h.means(2, A));
        due(1, () -> h.look(2, 0));
        due(2, () -> h.about(0, 2));
        due(1, () -> h.about(0, 0));
        h.intern(3, A);
        refused(BAD, () -> h.export(2, 1));
        refused(BAD, () -> h.export(4, 1));
        h.shadow(3, A);
        due(1, () -> h.export(3, 1));
        due(1201, () -> h.means(3, A));
        refused(LOCKED, () -> h.export(0, 0));
        h.intern(0, B);
        refused(LOCKED, () -> h.export(0, 2));
        refused(NONE, () -> h.export(0, 3));
        refused(NONE, () -> h.export(5, 0));
        refused(NONE, () -> h.export(1, -1));
        refused(NONE, () -> h.export(-1, 0));
        due(0, () -> h.count(2));
    }

    private static void exportsSettled() {
        SymbolHouse h = in(THREE_USERS);
        refused(CONFLICT, () -> h.export(1, 0));
        due(1, () -> h.count(2));
        due(100, () -> h.means(1, A));
        due(-1, () -> h.means(3, A));
        h.choose(1);
        due(1, () -> h.export(1, 0));
        due(200, () -> h.means(1, A));
        due(1101, () -> h.means(2, A));
        due(300, () -> h.means(3, A));
        due(1102, () -> h.means(4, A));
        due(2, () -> h.count(3));
        due(0, () -> h.unintern(3, 0));
        SymbolHouse other = in(THREE_USERS);
        other.choose(2);
        due(1, () -> other.export(1, 0));
        due(1100, () -> other.means(2, A));
        due(300, () -> other.means(3, A));
        due(1100, () -> other.means(4, A));
        due(-1, () -> other.about(1, 0));
        due(-1, () -> other.about(2, 0));
        due(2, () -> other.count(3));
        SymbolHouse last = in(THREE_USERS);
        last.shadow(2, A);
        refused(CONFLICT, () -> last.export(1, 0));
        last.shadow(4, A);
        due(1, () -> last.export(1, 0));
        due(0, () -> last.count(3));
    }

    private static void settlesOnlyWhatIsStillThere() {
        SymbolHouse h = house(3);
        h.use(2, 1);
        h.use(3, 2);
        h.use(3, 1);
        h.intern(2, A);
        h.export(2, 0);
        h.intern(1, A);
        h.choose(2);
        due(1, () -> h.export(1, 1));
        due(1101, () -> h.means(2, A));
        due(301, () -> h.means(3, A));
        due(1, () -> h.count(3));
        SymbolHouse kept = house(3);
        kept.use(3, 1);
        kept.use(2, 1);
        kept.use(2, 3);
        kept.intern(3, A);
        kept.export(3, 0);
        kept.intern(1, A);
        kept.choose(2);
        due(1, () -> kept.export(1, 1));
        due(1101, () -> kept.means(2, A));
        due(1101, () -> kept.means(3, A));
        due(2, () -> kept.count(3));
    }

    private static void settlesBeforeItIsDone() {
        SymbolHouse h = house(4);
        h.intern(1, A);
        h.export(1, 0);
        h.bring(2, 0);
        h.export(2, 0);
        h.use(3, 2);
        h.unintern(1, 0);
        due(-1, () -> h.about(0, 0));
        h.intern(4, A);
        h.use(4, 3);
        h.choose(2);
        due(1, () -> h.export(3, 0));
        due(4, () -> h.about(0, 0));
        due(200, () -> h.means(3, A));
        due(1100, () -> h.means(4, A));
    }

    private static void unexports() {
        SymbolHouse h = house(2);
        h.intern(1, A);
        due(0, () -> h.unexport(1, 0));
        h.export(1, 0);
        h.shadow(1, A);
        h.use(2, 1);
        due(0, () -> h.unexport(2, 0));
        due(1, () -> h.unexport(1, 0));
        due(1100, () -> h.means(1, A));
        due(-1, () -> h.means(2, A));
        due(0, () -> h.unexport(1, 0));
        due(1, () -> h.about(0, 0));
        h.intern(0, B);
        refused(LOCKED, () -> h.unexport(0, 1));
        refused(NONE, () -> h.unexport(0, 2));
        refused(NONE, () -> h.unexport(3, 0));
        refused(NONE, () -> h.unexport(1, -1));
    }

    private static void brings() {
        SymbolHouse h = house(4);
        h.intern(1, A);
        due(1, () -> h.bring(2, 0));
        due(0, () -> h.bring(2, 0));
        due(100, () -> h.means(2, A));
        due(1, () -> h.about(0, 0));
        h.intern(3, A);
        refused(CONFLICT, () -> h.bring(3, 0));
        h.choose(1);
        refused(CONFLICT, () -> h.bring(3, 0));
        h.choose(2);
        h.shadow(3, A);
        refused(CONFLICT, () -> h.bring(3, 0));
        due(3, () -> h.count(2));
        due(1101, () -> h.means(3, A));
        h.export(1, 0);
        h.use(4, 1);
        refused(CONFLICT, () -> h.bring(4, 1));
        due(1, () -> h.bring(4, 0));
        due(100, () -> h.means(4, A));
        h.unintern(1, 0);
        due(-1, () -> h.about(0, 0));
        due(0, () -> h.bring(2, 0));
        due(-1, () -> h.about(0, 0));
        due(1, () -> h.bring(1, 0));
        due(1, () -> h.about(0, 0));
        refused(LOCKED, () -> h.bring(0, 0));
        refused(NONE, () -> h.bring(0, 2));
        refused(NONE, () -> h.bring(5, 0));
        refused(NONE, () -> h.bring(1, -1));
    }

    private static void seizes() {
        SymbolHouse h = house(3);
        h.intern(1, A);
        h.intern(2, A);
        h.export(2, 1);
        h.shadow(2, A);
        h.use(3, 2);
        due(1, () -> h.seize(2, 0));
        due(1100, () -> h.means(2, A));
        due(-1, () -> h.about(1, 0));
        due(0, () -> h.about(1, 2));
        due(-1, () -> h.means(3, A));
        due(1, () -> h.look(2, 2));
        due(0, () -> h.look(2, 1));
        due(0, () -> h.seize(2, 0));
        h.export(1, 0);
        due(1, () -> h.seize(1, 0));
        due(1200, () -> h.means(1, A));
        due(1, () -> h.seize(3, 1));
        due(3, () -> h.about(1, 0));
        due(1101, () -> h.means(3, A));
        due(1, () -> h.seize(2, 1));
        due(1, () -> h.about(0, 0));
        due(3, () -> h.about(1, 0));
        refused(LOCKED, () -> h.seize(0, 0));
        refused(NONE, () -> h.seize(0, 2));
        refused(NONE, () -> h.seize(4, 0));
        refused(NONE, () -> h.seize(1, -1));
        SymbolHouse homeless = house(3);
        homeless.intern(1, A);
        homeless.bring(2, 0);
        homeless.drop(1);
        due(1, () -> homeless.seize(2, 0));
        due(-1, () -> homeless.about(0, 0));
        due(1, () -> homeless.seize(3, 0));
        due(3, () -> homeless.about(0, 0));
    }

    private static void shadows() {
        SymbolHouse h = house(2);
        h.intern(1, A);
        h.export(1, 0);
        h.use(2, 1);
        due(1, () -> h.shadow(2, A));
        due(1101, () -> h.means(2, A));
        due(2, () -> h.about(1, 0));
        due(1, () -> h.shadow(2, A));
        due(0, () -> h.shadow(1, A));
        due(1200, () -> h.means(1, A));
        due(2, () -> h.shadow(2, B));
        due(1102, () -> h.means(2, B));
        due(2, () -> h.look(2, 2));
        refused(LOCKED, () -> h.shadow(0, A));
        refused(LOCKED, () -> h.shadow(0, 0L));
        refused(BAD, () -> h.shadow(1, 0L));
        refused(NONE, () -> h.shadow(3, 0L));
        refused(NONE, () -> h.shadow(-1, A));
        fill(h, 1, 60);
        refused(FULL, () -> h.shadow(1, C));
        refused(FULL, () -> h.shadow(1, B));
        due(59, () -> h.shadow(1, n("fill59")));
        refused(BAD, () -> h.shadow(1, n("\1")));
        due(60, () -> h.count(1));
    }

    private static void uninterns() {
        SymbolHouse h = in(TWO_SIDES);
        h.choose(1);
        h.use(3, 2);
        h.choose(2);
        refused(CONFLICT, () -> h.unintern(3, 0));
        due(1, () -> h.count(2));
        due(2, () -> h.count(3));
        due(1100, () -> h.means(3, A));
        h.unexport(2, 1);
        due(1, () -> h.unintern(3, 0));
        due(300, () -> h.means(3, A));
        due(1, () -> h.about(0, 0));
        due(0, () -> h.unintern(3, 0));
        due(1, () -> h.unintern(1, 0));
        due(-1, () -> h.about(0, 0));
        due(-1, () -> h.means(1, A));
        due(-1, () -> h.means(3, A));
        due(1, () -> h.bring(1, 0));
        due(100, () -> h.means(1, A));
        due(1, () -> h.about(0, 0));
        refused(LOCKED, () -> h.unintern(0, 0));
        refused(NONE, () -> h.unintern(0, 4));
        refused(NONE, () -> h.unintern(4, 0));
        refused(NONE, () -> h.unintern(1, -1));
        SymbolHouse own = in(TWO_SIDES);
        int mine = own.shadow(3, A);
        own.unexport(2, 3);
        due(1, () -> own.use(3, 2));
        refused(CONFLICT, () -> own.unintern(3, mine));
        own.unuse(3, 2);
        due(1, () -> own.unintern(3, mine));
        due(300, () -> own.means(3, A));
        due(-1, () -> own.about(mine, 0));
    }

    private static void lists() {
        SymbolHouse h = house(2);
        refused(FULL, () -> h.listed(1, 0));
        String[] names = {"b", "ab", "a", "B", "~", "abcdefgh", "abcdefg", "!", "a!", "b0"};
        for (String name : names) {
            h.intern(1, n(name));
        }
        int[] order = {7, 3, 2, 8, 1, 6, 5, 0, 9, 4};
        for (int k = 0; k < order.length; k++) {
            int at = k;
            due(order[k], () -> h.listed(1, at));
        }
        refused(FULL, () -> h.listed(1, 10));
        refused(FULL, () -> h.listed(1, -1));
        refused(FULL, () -> h.listed(2, 0));
        h.export(1, 0);
        h.export(1, 1);
        h.shadow(2, n("b"));
        h.use(2, 1);
        due(1, () -> h.listed(2, 0));
        due(10, () -> h.listed(2, 1));
        refused(FULL, () -> h.listed(2, 2));
        h.bring(2, 1);
        due(1, () -> h.listed(2, 0));
        refused(FULL, () -> h.listed(2, 2));
        refused(NONE, () -> h.listed(3, 0));
        refused(NONE, () -> h.listed(-1, -1));
    }

    private static void allOfAName() {
        SymbolHouse h = house(3);
        h.intern(3, A);
        h.intern(1, A);
        h.intern(1, B);
        h.intern(2, A);
        h.bring(2, 2);
        due(0, () -> h.all(A, 0));
        due(1, () -> h.all(A, 1));
        due(3, () -> h.all(A, 2));
        refused(FULL, () -> h.all(A, 3));
        refused(FULL, () -> h.all(A, -1));
        due(2, () -> h.all(B, 0));
        refused(FULL, () -> h.all(B, 1));
        refused(FULL, () -> h.all(C, 0));
        h.unintern(1, 1);
        due(3, () -> h.all(A, 1));
        refused(FULL, () -> h.all(A, 2));
        h.drop(3);
        due(3, () -> h.all(A, 0));
        h.intern(0, A);
        due(4, () -> h.all(A, 1));
        refused(BAD, () -> h.all(0L, 0));
        refused(BAD, () -> h.all(0L, -1));
    }

    private static void aboutSymbols() {
        SymbolHouse h = house(4);
        h.intern(1, A);
        h.intern(1, n("abcdefgh"));
        due(1, () -> h.about(0, 0));
        due(1, () -> h.about(0, 1));
        due(8, () -> h.about(1, 1));
        due(1, () -> h.about(0, 2));
        due(1, () -> h.about(0, 3));
        h.export(1, 0);
        h.use(2, 1);
        h.bring(3, 0);
        h.shadow(4, A);
        h.use(4, 1);
        due(2, () -> h.about(0, 2));
        due(3, () -> h.about(0, 3));
        h.unintern(1, 0);
        due(-1, () -> h.about(0, 0));
        due(1, () -> h.about(0, 2));
        due(1, () -> h.about(0, 3));
        h.unintern(3, 0);
        due(0, () -> h.about(0, 2));
        due(0, () -> h.about(0, 3));
        refused(BAD, () -> h.about(0, 4));
        refused(BAD, () -> h.about(0, -1));
        refused(NONE, () -> h.about(3, 0));
        refused(NONE, () -> h.about(-1, 4));
    }

    private static void looks() {
        SymbolHouse h = house(4);
        h.intern(1, A);
        h.intern(1, B);
        h.intern(1, C);
        h.export(1, 0);
        h.export(1, 1);
        h.shadow(1, C);
        h.nickname(1, n("N"));
        due(3, () -> h.look(1, 0));
        due(2, () -> h.look(1, 1));
        due(1, () -> h.look(1, 2));
        due(0, () -> h.look(1, 3));
        due(0, () -> h.look(1, 4));
        due(1, () -> h.look(1, 6));
        h.shadow(2, A);
        h.use(2, 1);
        h.use(3, 1);
        h.use(3, 4);
        due(2, () -> h.look(1, 5));
        due(1, () -> h.look(4, 5));
        due(2, () -> h.look(3, 4));
        due(1, () -> h.look(2, 3));
        due(2, () -> h.look(3, 3));
        h.bring(3, 0);
        // Still external in a package that 3 uses, so INHERITED in the document's sense.
        due(2, () -> h.look(3, 3));
        due(1, () -> h.look(3, 0));
        refused(BAD, () -> h.look(1, 7));
        refused(BAD, () -> h.look(1, -1));
        refused(NONE, () -> h.look(5, 7));
        refused(NONE, () -> h.look(-1, 0));
    }

    private static void counts() {
        SymbolHouse h = house(3);
        due(4, () -> h.count(0));
        h.drop(2);
        due(3, () -> h.count(0));
        h.intern(1, A);
        h.intern(3, A);
        due(2, () -> h.count(1));
        h.unintern(1, 0);
        due(2, () -> h.count(1));
        refused(BAD, () -> h.count(4));
        refused(BAD, () -> h.count(-1));
        due(0, () -> h.count(2));
        due(0, () -> h.count(3));
    }

    private static void everyConflictCountsOnce() {
        SymbolHouse h = in(TWO_SIDES);
        refused(CONFLICT, () -> h.use(3, 2));
        due(1, () -> h.count(2));
        refused(CONFLICT, () -> h.drop(1));
        due(2, () -> h.count(2));
        refused(CONFLICT, () -> h.bring(1, 1));
        due(3, () -> h.count(2));
        h.choose(1);
        h.use(3, 2);
        refused(CONFLICT, () -> h.unintern(3, 0));
        due(4, () -> h.count(2));
        h.choose(0);
        h.intern(1, C);
        h.intern(3, C);
        refused(CONFLICT, () -> h.export(1, 4));
        due(5, () -> h.count(2));
        due(2, () -> h.count(3));
        refused(LOCKED, () -> h.drop(0));
        refused(BAD, () -> h.use(3, 3));
        refused(NONE, () -> h.bring(9, 0));
        due(5, () -> h.count(2));
    }

    /** The last package and the last symbol are as good as all others. */
    private static void fullHouse() {
        SymbolHouse h = house(9);
        fill(h, 8, 58);
        due(58, () -> h.intern(8, A));
        due(59, () -> h.intern(9, A));
        due(1, () -> h.export(9, 59));
        refused(CONFLICT, () -> h.use(8, 9));
        h.choose(2);
        due(1, () -> h.use(8, 9));
        due(1159, () -> h.means(8, A));
        due(59, () -> h.all(A, 0));
        due(59, () -> h.listed(8, 0));
        due(9, () -> h.listed(8, 58));
        refused(FULL, () -> h.listed(8, 59));
        due(9, () -> h.about(59, 0));
        due(2, () -> h.about(59, 3));
        due(1, () -> h.look(9, 5));
        refused(CONFLICT, () -> h.drop(9));
        due(59, () -> h.drop(8));
        due(1, () -> h.drop(9));
        due(-1, () -> h.about(59, 0));
        due(60, () -> h.count(1));
        due(8, () -> h.count(0));
        refused(FULL, () -> h.intern(0, A));
    }

    public static void main(String[] args) {
        sentence("Promise 1", PromiseTest::newObject);
        sentence("Promise 2", PromiseTest::packages);
        sentence("Promise 2", PromiseTest::namesEndAtTheFirstZero);
        sentence("Promise 3", PromiseTest::nicknames);
        sentence("Promise 4", PromiseTest::renames);
        sentence("Promise 5", PromiseTest::drops);
        sentence("Promise 6", PromiseTest::finds);
        sentence("Promise 7", PromiseTest::chooses);
        sentence("Promise 8", PromiseTest::uses);
        sentence("Promise 8", PromiseTest::usesKeepingOld);
        sentence("Promise 8", PromiseTest::usesTakingNew);
        sentence("Promise 8", PromiseTest::usesWhatIsShadowed);
        sentence("Promise 9", PromiseTest::unuses);
        sentence("Promise 10", PromiseTest::interns);
        sentence("Promise 11", PromiseTest::meanings);
        sentence("Promise 12", PromiseTest::exports);
        sentence("Promise 12", PromiseTest::exportsSettled);
        sentence("Promise 12", PromiseTest::settlesOnlyWhatIsStillThere);
        sentence("Promise 12", PromiseTest::settlesBeforeItIsDone);
        sentence("Promise 13", PromiseTest::unexports);
        sentence("Promise 14", PromiseTest::brings);
        sentence("Promise 15", PromiseTest::seizes);
        sentence("Promise 16", PromiseTest::shadows);
        sentence("Promise 17", PromiseTest::uninterns);
        sentence("Promise 18", PromiseTest::lists);
        sentence("Promise 19", PromiseTest::allOfAName);
        sentence("Promise 20", PromiseTest::aboutSymbols);
        sentence("Promise 21", PromiseTest::looks);
        sentence("Promise 22", PromiseTest::counts);
        sentence("Promise 23", PromiseTest::everyConflictCountsOnce);
        sentence("Promise 23", PromiseTest::fullHouse);
        finish();
    }
}
