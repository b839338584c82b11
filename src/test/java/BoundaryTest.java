/** The edges that the promises name, promise by promise; a refused call must leave all as it was. */
public final class BoundaryTest extends Checks {
    private static final long X = n("X");
    private static final long NO_NAME = n("x y");
    private static final int[] FAR_OUT = {Integer.MIN_VALUE, Integer.MAX_VALUE};

    /** 3 uses 1 and 2, whose a and b clash; a and b of its own, 4 and 5, are SHADOWING. */
    private static final State SHADOWED = h -> {
        TWO_SIDES.build(h);
        h.shadow(3, A);
        h.shadow(3, B);
        h.use(3, 2);
    };

    private static void aNewObject() {
        State nothing = h -> { };
        SymbolHouse h = in(nothing);
        due(1, () -> h.count(0));
        due(0, () -> h.count(1));
        due(0, () -> h.count(2));
        due(0, () -> h.count(3));
        due(0, () -> h.choose(2));
        SymbolHouse other = in(nothing);
        due(0, () -> other.choose(0));
        due(1, () -> other.pack(A));
        due(0, () -> other.intern(1, A));
        for (int p = 1; p <= 10; p++) {
            int absent = p;
            refusedAlways(NONE, nothing, g -> g.look(absent, 0));
        }
    }

    private static void packGivesTheLeastFree() {
        SymbolHouse h = in(ALL_PACKAGES);
        h.drop(9);
        h.drop(5);
        h.drop(7);
        due(7, () -> h.count(0));
        due(5, () -> h.pack(n("new1")));
        due(7, () -> h.pack(n("new2")));
        due(9, () -> h.pack(n("new3")));
        refused(FULL, () -> h.pack(n("new4")));
    }

    private static void packGivesOneWithoutAnything() {
        SymbolHouse h = in(LIVED);
        h.unuse(2, 3);
        h.nickname(3, X);
        h.drop(3);
        due(3, () -> h.pack(n("P3")));
        for (int what = 0; what <= 6; what++) {
            int w = what;
            due(0, () -> h.look(3, w));
        }
        due(-1, () -> h.means(3, A));
        due(-1, () -> h.means(3, B));
        due(0, () -> h.unuse(3, 1));
        due(1, () -> h.nickname(3, X));
        due(NEXT_SYMBOL, () -> h.intern(3, B));
        due(NEXT_SYMBOL + 100, () -> h.means(3, B));
    }

    private static void packRefuses() {
        refusedAlways(BAD, LIVED, h -> h.pack(0L));
        refusedAlways(BAD, LIVED, h -> h.pack(NO_NAME));
        refusedAlways(BAD, LIVED, h -> h.pack(n("P1")));
        refusedAlways(BAD, LIVED, h -> h.pack(n("M")));
        refusedAlways(FULL, ALL_PACKAGES, h -> h.pack(X));
        refusedAlways(BAD, ALL_PACKAGES, h -> h.pack(0L));
        refusedAlways(BAD, ALL_PACKAGES, h -> h.pack(n("P9")));
        due(9, () -> house(8).pack(X));
    }

    private static void twoNicknamesAtMost() {
        SymbolHouse h = house(1);
        due(1, () -> h.nickname(1, A));
        due(2, () -> h.nickname(1, B));
        refused(FULL, () -> h.nickname(1, C));
        due(2, () -> h.look(1, 6));
        due(1, () -> h.find(A));
        due(1, () -> h.find(B));
        refusedAlways(FULL, LIVED, g -> g.nickname(1, X));
        refusedAlways(BAD, LIVED, g -> g.nickname(1, NO_NAME));
        refusedAlways(BAD, LIVED, g -> g.nickname(1, n("N")));
        refusedAlways(BAD, LIVED, g -> g.nickname(1, n("K")));
    }

    private static void nicknameRefuses() {
        refusedAlways(NONE, LIVED, h -> h.nickname(NEXT_PACKAGE, X));
        refusedAlways(NONE, LIVED, h -> h.nickname(-1, 0L));
        refusedAlways(LOCKED, LIVED, h -> h.nickname(0, X));
        refusedAlways(LOCKED, LIVED, h -> h.nickname(0, 0L));
        refusedAlways(LOCKED, LIVED, h -> h.nickname(0, n("K")));
        refusedAlways(BAD, LIVED, h -> h.nickname(2, 0L));
        refusedAlways(BAD, LIVED, h -> h.nickname(2, n("P2")));
        refusedAlways(BAD, LIVED, h -> h.nickname(2, n("O")));
        refusedAlways(BAD, LIVED, h -> h.nickname(2, n("N")));
        refusedAlways(BAD, LIVED, h -> h.nickname(2, n("P1")));
    }

    private static void renameTakesTheNicknames() {
        SymbolHouse h = in(LIVED);
        due(1, () -> h.rename(1, X));
        due(0, () -> h.look(1, 6));
        due(1, () -> h.find(X));
        refused(NONE, () -> h.find(n("P1")));
        refused(NONE, () -> h.find(n("N")));
        refused(NONE, () -> h.find(n("M")));
        due(NEXT_PACKAGE, () -> h.pack(n("P1")));
        due(2, () -> h.nickname(2, n("N")));
        due(1, () -> h.nickname(1, n("M")));
        due(2, () -> h.look(1, 0));
        due(1, () -> h.look(1, 5));
    }

    private static void renameMayTakeItsOwn() {
        SymbolHouse name = in(LIVED);
        due(1, () -> name.rename(1, n("P1")));
        due(1, () -> name.find(n("P1")));
        due(0, () -> name.look(1, 6));
        refused(NONE, () -> name.find(n("N")));
        SymbolHouse first = in(LIVED);
        due(1, () -> first.rename(1, n("N")));
        due(1, () -> first.find(n("N")));
        due(0, () -> first.look(1, 6));
        refused(NONE, () -> first.find(n("P1")));
        SymbolHouse second = in(LIVED);
        due(1, () -> second.rename(1, n("M")));
        due(1, () -> second.find(n("M")));
        refused(NONE, () -> second.find(n("N")));
        idle(1, LIVED, h -> h.rename(3, n("P3")));
    }

    private static void renameRefuses() {
        refusedAlways(NONE, LIVED, h -> h.rename(NEXT_PACKAGE, X));
        refusedAlways(NONE, LIVED, h -> h.rename(-1, 0L));
        refusedAlways(LOCKED, LIVED, h -> h.rename(0, X));
        refusedAlways(LOCKED, LIVED, h -> h.rename(0, 0L));
        refusedAlways(LOCKED, LIVED, h -> h.rename(0, n("K")));
        refusedAlways(BAD, LIVED, h -> h.rename(1, 0L));
        refusedAlways(BAD, LIVED, h -> h.rename(1, NO_NAME));
        refusedAlways(BAD, LIVED, h -> h.rename(1, n("K")));
        refusedAlways(BAD, LIVED, h -> h.rename(1, n("P2")));
        refusedAlways(BAD, LIVED, h -> h.rename(1, n("O")));
    }

    private static void dropTellsHowManyWerePresent() {
        due(0, () -> house(1).drop(1));
        due(53, () -> in(ALL_SYMBOLS).drop(4));
        SymbolHouse h = house(1);
        fill(h, 1, 60);
        due(60, () -> h.drop(1));
        due(60, () -> h.count(1));
        SymbolHouse inherits = in(LIVED);
        due(0, () -> inherits.drop(4));
        due(0, () -> inherits.look(2, 5));
    }

    private static void dropTakesTheHomes() {
        SymbolHouse h = in(LIVED);
        h.unuse(2, 3);
        h.bring(4, 3);
        h.bring(3, 0);
        due(4, () -> h.drop(3));
        due(-1, () -> h.about(3, 0));
        due(1, () -> h.about(3, 2));
        due(-1, () -> h.about(4, 0));
        due(0, () -> h.about(4, 2));
        due(-1, () -> h.about(6, 0));
        due(1, () -> h.about(0, 0));
        due(2, () -> h.about(2, 0));
        due(0, () -> h.look(1, 5));
        due(4, () -> h.count(0));
        due(3, () -> h.pack(n("P3")));
        due(-1, () -> h.about(3, 0));
        due(1, () -> h.bring(3, 4));
        due(3, () -> h.about(4, 0));
        SymbolHouse all = house(1);
        fill(all, 1, 60);
        all.drop(1);
        for (int s = 0; s < 60; s++) {
            int homeless = s;
            due(-1, () -> all.about(homeless, 0));
        }
    }

    private static void dropRefuses() {
        refusedAlways(NONE, LIVED, h -> h.drop(NEXT_PACKAGE));
        refusedAlways(LOCKED, LIVED, h -> h.drop(0));
        refusedAlways(CONFLICT, LIVED, h -> h.drop(1));
        refusedAlways(CONFLICT, LIVED, h -> h.drop(2));
        State eachOther = h -> {
            packages(h, 2);
            h.use(1, 2);
            h.use(2, 1);
        };
        refusedAlways(CONFLICT, eachOther, h -> h.drop(1));
        refusedAlways(CONFLICT, eachOther, h -> h.drop(2));
        SymbolHouse h = in(eachOther);
        h.unuse(1, 2);
        due(0, () -> h.drop(2));
        due(0, () -> h.drop(1));
    }

    private static void findRefuses() {
        refusedAlways(BAD, LIVED, h -> h.find(0L));
        refusedAlways(BAD, LIVED, h -> h.find(NO_NAME));
        refusedAlways(NONE, LIVED, h -> h.find(X));
        refusedAlways(NONE, LIVED, h -> h.find(n("P")));
        refusedAlways(NONE, LIVED, h -> h.find(n("P11")));
        refusedAlways(NONE, LIVED, h -> h.find(A));
        idle(0, LIVED, h -> h.find(n("K")));
        idle(1, LIVED, h -> h.find(n("M")));
        SymbolHouse h = in(LIVED);
        h.drop(4);
        refused(NONE, () -> h.find(n("P4")));
    }

    private static void choicesAreThree() {
        for (int c : new int[] {-1, 3, 4, Integer.MIN_VALUE, Integer.MAX_VALUE}) {
            refusedAlways(BAD, LIVED, h -> h.choose(c));
        }
        SymbolHouse h = new SymbolHouse();
        for (int c = 0; c <= 2; c++) {
            int chosen = c;
            h.choose(0);
            due(0, () -> h.choose(chosen));
            due(chosen, () -> h.choose(chosen));
        }
    }

    private static void useAnswersNoneIfItDid() {
        idle(0, LIVED, h -> h.use(3, 1));
        idle(0, choosing(1, LIVED), h -> h.use(3, 1));
        idle(0, choosing(2, LIVED), h -> h.use(4, 2));
        idle(0, choosing(2, SHADOWED), h -> h.use(3, 2));
        SymbolHouse h = in(LIVED);
        due(1, () -> h.use(4, 3));
        due(0, () -> h.use(4, 3));
        due(2, () -> h.look(4, 4));
    }

    private static void useRefuses() {
        refusedAlways(NONE, LIVED, h -> h.use(NEXT_PACKAGE, 1));
        refusedAlways(NONE, LIVED, h -> h.use(1, NEXT_PACKAGE));
        refusedAlways(NONE, LIVED, h -> h.use(0, NEXT_PACKAGE));
        refusedAlways(NONE, LIVED, h -> h.use(NEXT_PACKAGE, 0));
        refusedAlways(NONE, LIVED, h -> h.use(NEXT_PACKAGE, NEXT_PACKAGE));
        refusedAlways(LOCKED, LIVED, h -> h.use(0, 0));
        refusedAlways(LOCKED, LIVED, h -> h.use(0, 3));
        refusedAlways(LOCKED, LIVED, h -> h.use(0, 1));
        for (int p = 1; p <= 4; p++) {
            int same = p;
            refusedAlways(BAD, LIVED, h -> h.use(same, same));
            refusedAlways(BAD, LIVED, h -> h.use(same, 0));
        }
        refusedWhole(CONFLICT, LIVED, h -> h.use(3, 2));
        refusedWhole(CONFLICT, LIVED, h -> h.use(4, 1));
        refusedWhole(CONFLICT, LIVED, h -> h.use(1, 2));
    }

    private static void useSettlesInItsOwnPackageAlone() {
        SymbolHouse h = in(choosing(2, LIVED));
        due(1, () -> h.use(3, 2));
        due(1102, () -> h.means(3, A));
        due(200, () -> h.means(1, A));
        due(202, () -> h.means(2, A));
        due(302, () -> h.means(4, A));
        due(1, () -> h.count(3));
        due(0, () -> h.count(2));
    }

    private static void unuseAnswersNoneIfItDidNot() {
        idle(0, LIVED, h -> h.unuse(1, 3));
        idle(0, LIVED, h -> h.unuse(3, 3));
        idle(0, LIVED, h -> h.unuse(3, 0));
        idle(0, LIVED, h -> h.unuse(4, 1));
        SymbolHouse h = in(SHADOWED);
        due(1, () -> h.unuse(3, 2));
        due(0, () -> h.unuse(3, 2));
        due(1104, () -> h.means(3, A));
        due(1, () -> h.look(3, 4));
        due(0, () -> h.look(2, 5));
        due(1, () -> h.look(1, 5));
    }

    private static void unuseRefuses() {
        refusedAlways(NONE, LIVED, h -> h.unuse(NEXT_PACKAGE, 1));
        refusedAlways(NONE, LIVED, h -> h.unuse(3, NEXT_PACKAGE));
        refusedAlways(NONE, LIVED, h -> h.unuse(0, NEXT_PACKAGE));
        refusedAlways(LOCKED, LIVED, h -> h.unuse(0, 1));
        refusedAlways(LOCKED, LIVED, h -> h.unuse(0, 0));
    }

    private static void internFindsWhatIsMeant() {
        idle(0, LIVED, h -> h.intern(1, A));
        idle(0, LIVED, h -> h.intern(3, A));
        idle(4, LIVED, h -> h.intern(3, B));
        idle(5, LIVED, h -> h.intern(0, A));
        idle(6, LIVED, h -> h.intern(3, D));
        idle(0, ALL_SYMBOLS, h -> h.intern(3, A));
        idle(59, ALL_SYMBOLS, h -> h.intern(4, n("fill59")));
        idle(5, ALL_SYMBOLS, h -> h.intern(0, A));
    }

    private static void internMakesWhatIsNotMeant() {
        SymbolHouse h = in(LIVED);
        due(NEXT_SYMBOL, () -> h.intern(4, B));
        due(NEXT_SYMBOL + 100, () -> h.means(4, B));
        due(4, () -> h.about(NEXT_SYMBOL, 0));
        due(NEXT_SYMBOL + 1, () -> h.intern(0, B));
        due(NEXT_SYMBOL + 201, () -> h.means(0, B));
        due(0, () -> h.about(NEXT_SYMBOL + 1, 0));
        due(2, () -> h.look(0, 1));
        due(0, () -> h.look(4, 1));
    }

    private static void internRefuses() {
        refusedAlways(NONE, LIVED, h -> h.intern(NEXT_PACKAGE, A));
        refusedAlways(NONE, LIVED, h -> h.intern(-1, 0L));
        refusedAlways(BAD, LIVED, h -> h.intern(1, 0L));
        refusedAlways(BAD, LIVED, h -> h.intern(0, NO_NAME));
        refusedAlways(FULL, ALL_SYMBOLS, h -> h.intern(1, X));
        refusedAlways(FULL, ALL_SYMBOLS, h -> h.intern(0, B));
        refusedAlways(FULL, ALL_SYMBOLS, h -> h.intern(4, B));
        refusedAlways(BAD, ALL_SYMBOLS, h -> h.intern(1, 0L));
        refusedAlways(NONE, ALL_SYMBOLS, h -> h.intern(NEXT_PACKAGE, X));
    }

    private static void meansTellsHow() {
        idle(-1, LIVED, h -> h.means(4, B));
        idle(-1, LIVED, h -> h.means(1, X));
        idle(106, LIVED, h -> h.means(3, D));
        idle(200, LIVED, h -> h.means(1, A));
        idle(205, LIVED, h -> h.means(0, A));
        idle(300, LIVED, h -> h.means(3, A));
        idle(1104, LIVED, h -> h.means(3, B));
        SymbolHouse h = in(LIVED);
        h.seize(1, 0);
        due(1200, () -> h.means(1, A));
        due(300, () -> h.means(3, A));
        h.bring(3, 0);
        due(100, () -> h.means(3, A));
    }

    private static void meansRefuses() {
        refusedAlways(NONE, LIVED, h -> h.means(NEXT_PACKAGE, A));
        refusedAlways(NONE, LIVED, h -> h.means(-1, 0L));
        refusedAlways(BAD, LIVED, h -> h.means(1, 0L));
        refusedAlways(BAD, LIVED, h -> h.means(0, NO_NAME));
    }

    private static void exportAnswersNoneIfItWas() {
        idle(0, LIVED, h -> h.export(1, 0));
        idle(0, choosing(1, SHADOWED), h -> h.export(1, 0));
        idle(0, choosing(2, SHADOWED), h -> h.export(2, 1));
    }

    private static void exportMakesPresent() {
        SymbolHouse h = in(LIVED);
        due(1, () -> h.export(4, 2));
        due(202, () -> h.means(4, A));
        due(2, () -> h.about(2, 0));
        due(2, () -> h.about(2, 2));
        due(0, () -> h.export(4, 2));
        due(1, () -> h.export(3, 4));
        due(1204, () -> h.means(3, B));
        due(304, () -> h.means(2, B));
        due(1, () -> h.export(3, 6));
        due(206, () -> h.means(3, D));
        due(-1, () -> h.about(6, 0));
    }

    private static void exportRefuses() {
        refusedAlways(NONE, LIVED, h -> h.export(NEXT_PACKAGE, 0));
        refusedAlways(NONE, LIVED, h -> h.export(1, NEXT_SYMBOL));
        refusedAlways(NONE, LIVED, h -> h.export(0, NEXT_SYMBOL));
        refusedAlways(LOCKED, LIVED, h -> h.export(0, 5));
        refusedAlways(LOCKED, LIVED, h -> h.export(0, 0));
        refusedAlways(BAD, LIVED, h -> h.export(4, 1));
        refusedAlways(BAD, LIVED, h -> h.export(3, 1));
        refusedAlways(BAD, LIVED, h -> h.export(3, 2));
        refusedAlways(BAD, LIVED, h -> h.export(1, 5));
        refusedWhole(CONFLICT, LIVED, h -> h.export(3, 0));
        refusedWhole(CONFLICT, THREE_USERS, h -> h.export(1, 0));
        refusedAlways(BAD, THREE_USERS, h -> h.export(1, 1));
    }

    private static void unexportLeavesPresent() {
        idle(0, LIVED, h -> h.unexport(3, 4));
        idle(0, LIVED, h -> h.unexport(3, 0));
        idle(0, LIVED, h -> h.unexport(4, 1));
        SymbolHouse h = in(LIVED);
        due(1, () -> h.unexport(1, 0));
        due(0, () -> h.unexport(1, 0));
        due(100, () -> h.means(1, A));
        due(-1, () -> h.means(3, A));
        due(1, () -> h.about(0, 0));
        h.export(3, 4);
        due(1, () -> h.unexport(3, 4));
        due(1104, () -> h.means(3, B));
    }

    private static void unexportRefuses() {
        refusedAlways(NONE, LIVED, h -> h.unexport(NEXT_PACKAGE, 0));
        refusedAlways(NONE, LIVED, h -> h.unexport(1, NEXT_SYMBOL));
        refusedAlways(NONE, LIVED, h -> h.unexport(0, NEXT_SYMBOL));
        refusedAlways(LOCKED, LIVED, h -> h.unexport(0, 5));
        refusedAlways(LOCKED, LIVED, h -> h.unexport(0, 0));
    }

    private static void bringMakesPresent() {
        idle(0, LIVED, h -> h.bring(1, 0));
        idle(0, LIVED, h -> h.bring(3, 4));
        idle(0, LIVED, h -> h.bring(3, 6));
        SymbolHouse h = in(LIVED);
        due(1, () -> h.bring(3, 0));
        due(100, () -> h.means(3, A));
        due(0, () -> h.bring(3, 0));
        due(1, () -> h.bring(4, 1));
        due(101, () -> h.means(4, B));
        due(1, () -> h.about(1, 0));
    }

    private static void bringRefuses() {
        refusedAlways(NONE, LIVED, h -> h.bring(NEXT_PACKAGE, 0));
        refusedAlways(NONE, LIVED, h -> h.bring(1, NEXT_SYMBOL));
        refusedAlways(NONE, LIVED, h -> h.bring(0, NEXT_SYMBOL));
        refusedAlways(LOCKED, LIVED, h -> h.bring(0, 0));
        refusedAlways(LOCKED, LIVED, h -> h.bring(0, 5));
        refusedAlways(LOCKED, LIVED, h -> h.bring(0, 1));
        refusedAlways(CONFLICT, LIVED, h -> h.bring(1, 2));
        refusedAlways(CONFLICT, LIVED, h -> h.bring(3, 2));
        refusedAlways(CONFLICT, LIVED, h -> h.bring(4, 0));
        refusedAlways(CONFLICT, LIVED, h -> h.bring(3, 1));
    }

    private static void seizeTakesThePlace() {
        idle(0, LIVED, h -> h.seize(3, 4));
        SymbolHouse own = in(LIVED);
        due(1, () -> own.seize(1, 0));
        due(1200, () -> own.means(1, A));
        due(0, () -> own.seize(1, 0));
        SymbolHouse h = in(LIVED);
        due(1, () -> h.seize(2, 0));
        due(1100, () -> h.means(2, A));
        due(-1, () -> h.about(2, 0));
        due(0, () -> h.about(2, 2));
        due(-1, () -> h.means(4, A));
        due(0, () -> h.look(2, 1));
        due(1, () -> h.seize(3, 1));
        due(1101, () -> h.means(3, B));
        due(-1, () -> h.about(4, 0));
        due(1, () -> h.look(3, 2));
        due(0, () -> h.count(2));
        due(0, () -> h.count(3));
    }

    private static void seizeLeavesAnotherHome() {
        SymbolHouse h = in(LIVED);
        h.bring(3, 0);
        due(1, () -> h.seize(3, 2));
        due(1102, () -> h.means(3, A));
        due(1, () -> h.about(0, 0));
        due(1, () -> h.about(0, 2));
        due(2, () -> h.about(2, 0));
    }

    private static void seizeRefuses() {
        refusedAlways(NONE, LIVED, h -> h.seize(NEXT_PACKAGE, 0));
        refusedAlways(NONE, LIVED, h -> h.seize(1, NEXT_SYMBOL));
        refusedAlways(NONE, LIVED, h -> h.seize(0, NEXT_SYMBOL));
        refusedAlways(LOCKED, LIVED, h -> h.seize(0, 0));
        refusedAlways(LOCKED, LIVED, h -> h.seize(0, 5));
    }

    private static void shadowTakesThePresentOne() {
        idle(4, LIVED, h -> h.shadow(3, B));
        SymbolHouse h = in(LIVED);
        due(0, () -> h.shadow(1, A));
        due(1200, () -> h.means(1, A));
        due(6, () -> h.shadow(3, D));
        due(1106, () -> h.means(3, D));
        due(-1, () -> h.about(6, 0));
        due(NEXT_SYMBOL, () -> h.shadow(3, A));
        due(1100 + NEXT_SYMBOL, () -> h.means(3, A));
        due(3, () -> h.about(NEXT_SYMBOL, 0));
        due(NEXT_SYMBOL, () -> h.shadow(3, A));
        due(NEXT_SYMBOL + 1, () -> h.shadow(4, C));
        SymbolHouse full = in(ALL_SYMBOLS);
        due(0, () -> full.shadow(1, A));
        due(59, () -> full.shadow(4, n("fill59")));
        due(4, () -> full.shadow(3, B));
    }

    private static void shadowRefuses() {
        refusedAlways(NONE, LIVED, h -> h.shadow(NEXT_PACKAGE, A));
        refusedAlways(NONE, LIVED, h -> h.shadow(-1, 0L));
        refusedAlways(LOCKED, LIVED, h -> h.shadow(0, A));
        refusedAlways(LOCKED, LIVED, h -> h.shadow(0, 0L));
        refusedAlways(BAD, LIVED, h -> h.shadow(1, 0L));
        refusedAlways(BAD, LIVED, h -> h.shadow(1, NO_NAME));
        refusedAlways(FULL, ALL_SYMBOLS, h -> h.shadow(1, X));
        refusedAlways(FULL, ALL_SYMBOLS, h -> h.shadow(3, A));
        refusedAlways(BAD, ALL_SYMBOLS, h -> h.shadow(1, 0L));
        refusedAlways(LOCKED, ALL_SYMBOLS, h -> h.shadow(0, X));
        refusedAlways(NONE, ALL_SYMBOLS, h -> h.shadow(NEXT_PACKAGE, X));
    }

    private static void uninternTakesOut() {
        idle(0, LIVED, h -> h.unintern(4, 0));
        idle(0, LIVED, h -> h.unintern(3, 0));
        idle(0, LIVED, h -> h.unintern(4, 6));
        SymbolHouse h = in(LIVED);
        due(1, () -> h.unintern(1, 0));
        due(0, () -> h.unintern(1, 0));
        due(-1, () -> h.about(0, 0));
        due(-1, () -> h.means(1, A));
        due(-1, () -> h.means(3, A));
        due(1, () -> h.look(1, 0));
        due(1, () -> h.look(1, 1));
        due(1, () -> h.unintern(3, 4));
        due(0, () -> h.look(3, 2));
        due(301, () -> h.means(3, B));
        due(1, () -> h.bring(1, 0));
        due(100, () -> h.means(1, A));
        h.bring(4, 1);
        due(1, () -> h.unintern(4, 1));
        due(1, () -> h.about(1, 0));
    }

    private static void uninternRefuses() {
        refusedAlways(NONE, LIVED, h -> h.unintern(NEXT_PACKAGE, 0));
        refusedAlways(NONE, LIVED, h -> h.unintern(1, NEXT_SYMBOL));
        refusedAlways(NONE, LIVED, h -> h.unintern(0, NEXT_SYMBOL));
        refusedAlways(LOCKED, LIVED, h -> h.unintern(0, 5));
        refusedAlways(LOCKED, LIVED, h -> h.unintern(0, 0));
        refusedAlways(CONFLICT, SHADOWED, h -> h.unintern(3, 4));
        refusedAlways(CONFLICT, SHADOWED, h -> h.unintern(3, 5));
        State oneOfTheTwo = choosing(1, TWO_SIDES);
        refusedAlways(CONFLICT, h -> {
            oneOfTheTwo.build(h);
            h.use(3, 2);
        }, h -> h.unintern(3, 0));
    }

    private static void uninternMayLeaveOneOnTwoWays() {
        SymbolHouse h = house(4);
        h.intern(1, A);
        h.bring(2, 0);
        h.export(1, 0);
        h.export(2, 0);
        h.use(3, 1);
        h.use(3, 2);
        h.shadow(3, A);
        due(1, () -> h.unintern(3, 1));
        due(300, () -> h.means(3, A));
        h.seize(3, 0);
        due(1, () -> h.unintern(3, 0));
        due(0, () -> h.count(2));
    }

    private static void listedGoesByNames() {
        SymbolHouse h = house(1);
        String[] names = {"~", "ab", "a~", "a", "A", "a!", "!", "abcdefgh", "abcdefg", "abcdefg~",
            "Z", "~~~~~~~~", "0", "b", "!!!!!!!!"};
        int[] order = {6, 14, 12, 4, 10, 3, 5, 1, 8, 7, 9, 2, 13, 0, 11};
        for (String name : names) {
            h.intern(1, n(name));
        }
        for (int k = 0; k < order.length; k++) {
            int at = k;
            due(order[k], () -> h.listed(1, at));
        }
    }

    private static void listedEnds() {
        idle(0, LIVED, h -> h.listed(3, 0));
        idle(4, LIVED, h -> h.listed(3, 1));
        idle(3, LIVED, h -> h.listed(3, 2));
        idle(6, LIVED, h -> h.listed(3, 3));
        refusedAlways(FULL, LIVED, h -> h.listed(3, 4));
        refusedAlways(FULL, LIVED, h -> h.listed(3, -1));
        refusedAlways(FULL, LIVED, h -> h.listed(4, 1));
        for (int k : FAR_OUT) {
            refusedAlways(FULL, LIVED, h -> h.listed(3, k));
            refusedAlways(NONE, LIVED, h -> h.listed(NEXT_PACKAGE, k));
        }
        refusedAlways(NONE, LIVED, h -> h.listed(NEXT_PACKAGE, 0));
        SymbolHouse h = house(1);
        refused(FULL, () -> h.listed(1, 0));
        fill(h, 1, 60);
        due(0, () -> h.listed(1, 0));
        due(9, () -> h.listed(1, 59));
        refused(FULL, () -> h.listed(1, 60));
    }

    private static void allEnds() {
        idle(0, LIVED, h -> h.all(A, 0));
        idle(2, LIVED, h -> h.all(A, 1));
        idle(5, LIVED, h -> h.all(A, 2));
        refusedAlways(FULL, LIVED, h -> h.all(A, 3));
        refusedAlways(FULL, LIVED, h -> h.all(A, -1));
        refusedAlways(FULL, LIVED, h -> h.all(X, 0));
        refusedAlways(FULL, LIVED, h -> h.all(D, 1));
        for (int k : FAR_OUT) {
            refusedAlways(FULL, LIVED, h -> h.all(A, k));
            refusedAlways(BAD, LIVED, h -> h.all(0L, k));
        }
        refusedAlways(BAD, LIVED, h -> h.all(NO_NAME, 0));
        SymbolHouse h = in(LIVED);
        h.bring(3, 0);
        due(2, () -> h.all(A, 1));
        h.unintern(1, 0);
        due(0, () -> h.all(A, 0));
        h.unintern(3, 0);
        due(2, () -> h.all(A, 0));
        refused(FULL, () -> h.all(A, 2));
    }

    private static void aboutEnds() {
        idle(-1, LIVED, h -> h.about(6, 0));
        idle(0, LIVED, h -> h.about(5, 0));
        idle(1, LIVED, h -> h.about(6, 1));
        idle(1, LIVED, h -> h.about(6, 2));
        idle(1, LIVED, h -> h.about(5, 2));
        idle(1, LIVED, h -> h.about(5, 3));
        idle(2, LIVED, h -> h.about(0, 3));
        idle(1, LIVED, h -> h.about(1, 3));
        for (int what : new int[] {-1, 4, Integer.MIN_VALUE, Integer.MAX_VALUE}) {
            refusedAlways(BAD, LIVED, h -> h.about(0, what));
            refusedAlways(NONE, LIVED, h -> h.about(NEXT_SYMBOL, what));
            refusedAlways(NONE, LIVED, h -> h.about(-1, what));
        }
        SymbolHouse nowhere = in(LIVED);
        nowhere.unintern(3, 6);
        due(-1, () -> nowhere.about(6, 0));
        due(1, () -> nowhere.about(6, 1));
        due(0, () -> nowhere.about(6, 2));
        due(0, () -> nowhere.about(6, 3));
        SymbolHouse everywhere = house(9);
        everywhere.intern(1, A);
        for (int p = 2; p <= 9; p++) {
            everywhere.bring(p, 0);
        }
        due(9, () -> everywhere.about(0, 2));
        due(9, () -> everywhere.about(0, 3));
    }

    private static void lookEnds() {
        int[][] due = {{1, 1, 0, 0, 0, 0, 0}, {2, 2, 0, 0, 0, 1, 2}, {1, 1, 0, 1, 1, 1, 1},
            {3, 1, 1, 1, 1, 1, 0}, {0, 0, 0, 1, 1, 0, 0}};
        for (int p = 0; p < due.length; p++) {
            for (int what = 0; what <= 6; what++) {
                int of = p;
                int asked = what;
                idle(due[p][what], LIVED, h -> h.look(of, asked));
            }
        }
        for (int what : new int[] {-1, 7, Integer.MIN_VALUE, Integer.MAX_VALUE}) {
            refusedAlways(BAD, LIVED, h -> h.look(1, what));
            refusedAlways(BAD, LIVED, h -> h.look(0, what));
            refusedAlways(NONE, LIVED, h -> h.look(NEXT_PACKAGE, what));
        }
        SymbolHouse h = house(9);
        for (int p = 2; p <= 9; p++) {
            h.use(1, p);
            h.use(p, 1);
        }
        due(8, () -> h.look(1, 4));
        due(8, () -> h.look(1, 5));
        due(1, () -> h.look(9, 4));
        due(1, () -> h.look(9, 5));
    }

    private static void countEnds() {
        idle(5, LIVED, h -> h.count(0));
        idle(10, ALL_PACKAGES, h -> h.count(0));
        idle(7, LIVED, h -> h.count(1));
        idle(60, ALL_SYMBOLS, h -> h.count(1));
        for (int what : new int[] {-1, 4, Integer.MIN_VALUE, Integer.MAX_VALUE}) {
            refusedAlways(BAD, LIVED, h -> h.count(what));
        }
    }

    private static void onlyConflictsAreCounted() {
        SymbolHouse h = in(LIVED);
        refused(CONFLICT, () -> h.drop(1));
        due(1, () -> h.count(2));
        refused(CONFLICT, () -> h.bring(3, 2));
        due(2, () -> h.count(2));
        refused(CONFLICT, () -> h.use(3, 2));
        due(3, () -> h.count(2));
        refused(CONFLICT, () -> h.export(3, 0));
        due(4, () -> h.count(2));
        h.choose(1);
        due(1, () -> h.use(3, 2));
        due(4, () -> h.count(2));
        due(1, () -> h.count(3));
        refused(CONFLICT, () -> h.unintern(3, 0));
        due(5, () -> h.count(2));
        due(1, () -> h.count(3));
    }

    private static void aCallCountsOnce() {
        SymbolHouse twoNames = in(TWO_SIDES);
        refused(CONFLICT, () -> twoNames.use(3, 2));
        due(1, () -> twoNames.count(2));
        SymbolHouse twoPackages = in(THREE_USERS);
        refused(CONFLICT, () -> twoPackages.export(1, 0));
        due(1, () -> twoPackages.count(2));
        SymbolHouse twoUsers = in(THREE_USERS);
        refused(CONFLICT, () -> twoUsers.drop(1));
        due(1, () -> twoUsers.count(2));
        SymbolHouse settled = in(choosing(2, TWO_SIDES));
        due(1, () -> settled.use(3, 2));
        due(0, () -> settled.count(2));
        due(2, () -> settled.count(3));
    }

    public static void main(String[] args) {
        sentence("1: PACKAGE 0 alone, no SYMBOLS, CHOICE 0", BoundaryTest::aNewObject);
        sentence("2: the least that is free", BoundaryTest::packGivesTheLeastFree);
        sentence("2: which USES nothing", BoundaryTest::packGivesOneWithoutAnything);
        sentence("2: BAD, FULL", BoundaryTest::packRefuses);
        sentence("3: FULL: it has 2", BoundaryTest::twoNicknamesAtMost);
        sentence("3: NONE, LOCKED, BAD", BoundaryTest::nicknameRefuses);
        sentence("4: and no NICKNAMES", BoundaryTest::renameTakesTheNicknames);
        sentence("4: its own NAME and NICKNAMES are free", BoundaryTest::renameMayTakeItsOwn);
        sentence("4: NONE, LOCKED, BAD", BoundaryTest::renameRefuses);
        sentence("5: how many SYMBOLS were PRESENT", BoundaryTest::dropTellsHowManyWerePresent);
        sentence("5: those at home there have no HOME", BoundaryTest::dropTakesTheHomes);
        sentence("5: NONE, LOCKED, CONFLICT", BoundaryTest::dropRefuses);
        sentence("6: BAD, NONE", BoundaryTest::findRefuses);
        sentence("7: BAD: c is not 0..2", BoundaryTest::choicesAreThree);
        sentence("8: or 0 if it did", BoundaryTest::useAnswersNoneIfItDid);
        sentence("8: NONE, LOCKED, BAD, CONFLICT", BoundaryTest::useRefuses);
        sentence("8: SETTLED (in p)", BoundaryTest::useSettlesInItsOwnPackageAlone);
        sentence("9: or 0 if it did not", BoundaryTest::unuseAnswersNoneIfItDidNot);
        sentence("9: NONE, LOCKED", BoundaryTest::unuseRefuses);
        sentence("10: the SYMBOL that the NAME MEANS", BoundaryTest::internFindsWhatIsMeant);
        sentence("10: if it means nothing a new one", BoundaryTest::internMakesWhatIsNotMeant);
        sentence("10: NONE, BAD, FULL", BoundaryTest::internRefuses);
        sentence("11: -1, 100, 200, 300, 1000", BoundaryTest::meansTellsHow);
        sentence("11: NONE, BAD", BoundaryTest::meansRefuses);
        sentence("12: or 0 if it was", BoundaryTest::exportAnswersNoneIfItWas);
        sentence("12: is PRESENT and EXTERNAL there", BoundaryTest::exportMakesPresent);
        sentence("12: NONE, LOCKED, BAD, CONFLICT", BoundaryTest::exportRefuses);
        sentence("13: PRESENT still, or 0", BoundaryTest::unexportLeavesPresent);
        sentence("13: NONE, LOCKED", BoundaryTest::unexportRefuses);
        sentence("14: is PRESENT in p, or 0", BoundaryTest::bringMakesPresent);
        sentence("14: NONE, LOCKED, CONFLICT", BoundaryTest::bringRefuses);
        sentence("15: another one is so no more", BoundaryTest::seizeTakesThePlace);
        sentence("15: without a HOME, if that was p", BoundaryTest::seizeLeavesAnotherHome);
        sentence("15: NONE, LOCKED", BoundaryTest::seizeRefuses);
        sentence("16: the one that is PRESENT, else new", BoundaryTest::shadowTakesThePresentOne);
        sentence("16: NONE, LOCKED, BAD, FULL", BoundaryTest::shadowRefuses);
        sentence("17: is PRESENT no more, or 0", BoundaryTest::uninternTakesOut);
        sentence("17: NONE, LOCKED, CONFLICT", BoundaryTest::uninternRefuses);
        sentence("17: no CONFLICT of one SYMBOL", BoundaryTest::uninternMayLeaveOneOnTwoWays);
        sentence("18: in the order of NAMES", BoundaryTest::listedGoesByNames);
        sentence("18: NONE, FULL", BoundaryTest::listedEnds);
        sentence("19: BAD, FULL", BoundaryTest::allEnds);
        sentence("20: NONE, BAD for others", BoundaryTest::aboutEnds);
        sentence("21: NONE, BAD for others", BoundaryTest::lookEnds);
        sentence("22: BAD for others", BoundaryTest::countEnds);
        sentence("23: every CONFLICT that was thrown", BoundaryTest::onlyConflictsAreCounted);
        sentence("23: one a call", BoundaryTest::aCallCountsOnce);
        finish();
    }
}
