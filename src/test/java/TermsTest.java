/** The section Terms of the document, and what it is: a test for each sentence. */
public final class TermsTest extends Checks {
    private interface NameCall {
        int of(SymbolHouse h, long name);
    }

    private interface NumberCall {
        int of(SymbolHouse h, int number);
    }

    private static final long X = n("X");

    private static final NameCall[] NAME_CALLS = {
        (h, name) -> h.pack(name),
        (h, name) -> h.nickname(2, name),
        (h, name) -> h.rename(2, name),
        (h, name) -> h.find(name),
        (h, name) -> h.intern(0, name),
        (h, name) -> h.intern(1, name),
        (h, name) -> h.means(1, name),
        (h, name) -> h.shadow(1, name),
        (h, name) -> h.all(name, 0)
    };

    private static final NumberCall[] PACKAGE_CALLS = {
        (h, p) -> h.nickname(p, X),
        (h, p) -> h.rename(p, X),
        (h, p) -> h.drop(p),
        (h, p) -> h.use(p, 1),
        (h, p) -> h.use(1, p),
        (h, p) -> h.unuse(p, 1),
        (h, p) -> h.unuse(3, p),
        (h, p) -> h.intern(p, X),
        (h, p) -> h.means(p, A),
        (h, p) -> h.export(p, 0),
        (h, p) -> h.unexport(p, 0),
        (h, p) -> h.bring(p, 0),
        (h, p) -> h.seize(p, 0),
        (h, p) -> h.shadow(p, X),
        (h, p) -> h.unintern(p, 0),
        (h, p) -> h.listed(p, 0),
        (h, p) -> h.look(p, 0)
    };

    private static final NumberCall[] SYMBOL_CALLS = {
        (h, s) -> h.export(1, s),
        (h, s) -> h.unexport(1, s),
        (h, s) -> h.bring(1, s),
        (h, s) -> h.seize(1, s),
        (h, s) -> h.unintern(1, s),
        (h, s) -> h.about(s, 0)
    };

    private static boolean isLetter(int code) {
        return code >= 33 && code <= 126;
    }

    private static long withLetter(long name, int place, long code) {
        return name & ~(255L << (8 * place)) | code << (8 * place);
    }

    private static long beginning(long name, int letters) {
        return letters == 8 ? name : name & (1L << (8 * letters)) - 1;
    }

    private static void badInEveryCall(long name) {
        for (NameCall call : NAME_CALLS) {
            refusedWhole(BAD, LIVED, h -> call.of(h, name));
        }
    }

    private static void goodInEveryCall(long name, int letters) {
        SymbolHouse h = in(LIVED);
        refused(NONE, () -> h.find(name));
        due(NEXT_PACKAGE, () -> h.pack(name));
        due(NEXT_PACKAGE, () -> h.find(name));
        due(NEXT_SYMBOL, () -> h.intern(1, name));
        due(NEXT_SYMBOL + 100, () -> h.means(1, name));
        due(NEXT_SYMBOL, () -> h.all(name, 0));
        due(letters, () -> h.about(NEXT_SYMBOL, 1));
        due(NEXT_SYMBOL, () -> h.shadow(1, name));
        due(NEXT_SYMBOL + 1, () -> h.shadow(2, name));
        due(NEXT_SYMBOL + 2, () -> h.intern(0, name));
        due(letters, () -> h.about(NEXT_SYMBOL + 2, 1));
        SymbolHouse nicknamed = in(LIVED);
        due(2, () -> nicknamed.nickname(2, name));
        due(2, () -> nicknamed.find(name));
        SymbolHouse renamed = in(LIVED);
        due(1, () -> renamed.rename(2, name));
        due(2, () -> renamed.find(name));
    }

    private static void oneNameInEveryCall(long given, long plain, int letters) {
        SymbolHouse h = in(LIVED);
        due(NEXT_PACKAGE, () -> h.pack(given));
        due(NEXT_PACKAGE, () -> h.find(plain));
        due(NEXT_PACKAGE, () -> h.find(given));
        refused(BAD, () -> h.pack(plain));
        refused(BAD, () -> h.pack(given));
        refused(BAD, () -> h.nickname(2, given));
        refused(BAD, () -> h.rename(2, given));
        due(1, () -> h.rename(NEXT_PACKAGE, given));
        due(NEXT_SYMBOL, () -> h.intern(1, given));
        due(NEXT_SYMBOL, () -> h.intern(1, plain));
        due(NEXT_SYMBOL + 100, () -> h.means(1, plain));
        due(NEXT_SYMBOL + 100, () -> h.means(1, given));
        due(letters, () -> h.about(NEXT_SYMBOL, 1));
        due(NEXT_SYMBOL, () -> h.all(given, 0));
        due(NEXT_SYMBOL, () -> h.shadow(1, given));
        due(NEXT_SYMBOL + 1, () -> h.shadow(2, given));
        due(NEXT_SYMBOL + 1, () -> h.shadow(2, plain));
        SymbolHouse nicknamed = in(LIVED);
        due(2, () -> nicknamed.nickname(2, given));
        due(2, () -> nicknamed.find(plain));
        SymbolHouse renamed = in(LIVED);
        due(1, () -> renamed.rename(2, given));
        due(2, () -> renamed.find(plain));
    }

    private static void namesHaveALetter() {
        badInEveryCall(0L);
        badInEveryCall((long) 'x' << 8);
        badInEveryCall((long) 'x' << 56);
        badInEveryCall(-1L << 8);
    }

    private static void namesHaveUpToEightLetters() {
        long name = n("vwxyVWXY");
        for (int letters = 1; letters <= 8; letters++) {
            goodInEveryCall(beginning(name, letters), letters);
        }
    }

    private static void everyLetterIsGood() {
        long name = n("vwxyVWXY");
        for (int place = 0; place < 8; place++) {
            for (int code = 33; code <= 126; code++) {
                long whole = withLetter(name, place, code);
                SymbolHouse h = new SymbolHouse();
                due(1, () -> h.pack(whole));
                due(1, () -> h.find(whole));
                due(0, () -> h.intern(1, whole));
                due(100, () -> h.means(1, whole));
                due(8, () -> h.about(0, 1));
            }
            goodInEveryCall(withLetter(name, place, 33), 8);
            goodInEveryCall(withLetter(name, place, 126), 8);
            goodInEveryCall(withLetter(beginning(name, place), place, 33), place + 1);
            goodInEveryCall(withLetter(beginning(name, place), place, 126), place + 1);
        }
    }

    private static void nothingElseIsALetter() {
        long name = n("vwxyVWXY");
        for (int place = 0; place < 8; place++) {
            for (int code = 1; code <= 255; code++) {
                if (isLetter(code)) {
                    continue;
                }
                SymbolHouse h = in(LIVED);
                long whole = withLetter(name, place, code);
                long cut = beginning(whole, place + 1);
                for (NameCall call : NAME_CALLS) {
                    refused(BAD, () -> call.of(h, whole));
                    refused(BAD, () -> call.of(h, cut));
                }
            }
            badInEveryCall(withLetter(name, place, 32));
            badInEveryCall(withLetter(name, place, 127));
        }
    }

    private static void namesEndAtTheFirstZero() {
        long name = n("vwxyVWXY");
        long[] behind = {-1L, 'a', 32L, 127L, 255L};
        for (int letters = 1; letters <= 6; letters++) {
            long plain = beginning(name, letters);
            for (long code : behind) {
                oneNameInEveryCall(plain | code << (8 * letters + 8), plain, letters);
            }
            oneNameInEveryCall(plain | 128L << 56, plain, letters);
        }
    }

    private static void everyLetterTells() {
        long name = n("vwxyVWXY");
        SymbolHouse h = house(1);
        due(0, () -> h.intern(1, name));
        for (int place = 0; place < 8; place++) {
            long other = withLetter(name, place, '0');
            int made = 1 + 2 * place;
            due(made, () -> h.intern(1, other));
            long begun = beginning(name, place + 1);
            due(place == 7 ? 0 : made + 1, () -> h.intern(1, begun));
        }
        SymbolHouse packed = new SymbolHouse();
        for (int letters = 1; letters <= 8; letters++) {
            int made = letters;
            due(made, () -> packed.pack(beginning(name, made)));
        }
        for (int letters = 1; letters <= 8; letters++) {
            int made = letters;
            due(made, () -> packed.find(beginning(name, made)));
        }
    }

    private static void symbolsAreNumberedAsTheyAreMade() {
        SymbolHouse h = house(3);
        due(0, () -> h.intern(2, A));
        due(1, () -> h.intern(1, A));
        due(2, () -> h.intern(0, A));
        due(3, () -> h.shadow(3, A));
        h.unintern(2, 0);
        due(4, () -> h.intern(2, A));
        h.drop(1);
        due(5, () -> h.intern(2, B));
        h.seize(2, 1);
        due(6, () -> h.intern(3, B));
        due(7, () -> h.count(1));
    }

    private static void sixtySymbolsAtMost() {
        State room = h -> {
            LIVED.build(h);
            fill(h, 4, 59);
        };
        due(59, () -> in(room).intern(1, X));
        due(59, () -> in(room).intern(0, X));
        due(59, () -> in(room).shadow(1, X));
        refusedAlways(FULL, ALL_SYMBOLS, h -> h.intern(1, X));
        refusedAlways(FULL, ALL_SYMBOLS, h -> h.intern(0, X));
        refusedAlways(FULL, ALL_SYMBOLS, h -> h.shadow(1, X));
        State outAgain = h -> {
            ALL_SYMBOLS.build(h);
            h.unintern(1, 0);
            h.drop(4);
        };
        refusedAlways(FULL, outAgain, h -> h.intern(1, A));
        refusedAlways(FULL, outAgain, h -> h.shadow(1, A));
    }

    private static void symbolsThatAreNotThere() {
        int[] numbers = {-1, -60, -64, NEXT_SYMBOL, 59, 60, 63, 64, 64 + 1, Integer.MAX_VALUE,
            Integer.MIN_VALUE};
        for (NumberCall call : SYMBOL_CALLS) {
            for (int s : numbers) {
                refusedWhole(NONE, LIVED, h -> call.of(h, s));
            }
            refusedWhole(NONE, ALL_SYMBOLS, h -> call.of(h, 60));
            refusedWhole(NONE, h -> packages(h, 1), h -> call.of(h, 0));
        }
    }

    private static void theLastSymbolIsThere() {
        due(4, () -> in(ALL_SYMBOLS).about(59, 0));
        due(1, () -> in(ALL_SYMBOLS).export(4, 59));
        due(0, () -> in(ALL_SYMBOLS).unexport(4, 59));
        due(1, () -> in(ALL_SYMBOLS).bring(1, 59));
        due(1, () -> in(ALL_SYMBOLS).seize(1, 59));
        due(1, () -> in(ALL_SYMBOLS).unintern(4, 59));
        SymbolHouse h = in(ALL_SYMBOLS);
        h.unintern(4, 59);
        due(-1, () -> h.about(59, 0));
        due(1, () -> h.bring(1, 59));
        due(1, () -> h.about(59, 0));
    }

    private static void packagesThatAreNotThere() {
        int[] numbers = {-1, -10, -64, NEXT_PACKAGE, 9, 10, 11, 64, 65, Integer.MAX_VALUE,
            Integer.MIN_VALUE};
        State dropped = h -> {
            LIVED.build(h);
            h.unuse(4, 2);
            h.drop(4);
        };
        for (NumberCall call : PACKAGE_CALLS) {
            for (int p : numbers) {
                refusedWhole(NONE, LIVED, h -> call.of(h, p));
            }
            refusedWhole(NONE, dropped, h -> call.of(h, 4));
            refusedWhole(NONE, ALL_PACKAGES, h -> call.of(h, 10));
        }
    }

    private static void theLastPackageIsThere() {
        due(1, () -> in(ALL_PACKAGES).nickname(9, X));
        due(1, () -> in(ALL_PACKAGES).rename(9, X));
        due(0, () -> in(ALL_PACKAGES).drop(9));
        due(9, () -> in(ALL_PACKAGES).find(n("P9")));
        due(1, () -> in(ALL_PACKAGES).use(9, 1));
        due(1, () -> in(ALL_PACKAGES).use(1, 9));
        due(0, () -> in(ALL_PACKAGES).unuse(9, 1));
        due(0, () -> in(ALL_PACKAGES).unuse(1, 9));
        due(NEXT_SYMBOL, () -> in(ALL_PACKAGES).intern(9, A));
        due(-1, () -> in(ALL_PACKAGES).means(9, A));
        refused(BAD, () -> in(ALL_PACKAGES).export(9, 0));
        due(0, () -> in(ALL_PACKAGES).unexport(9, 0));
        due(1, () -> in(ALL_PACKAGES).bring(9, 0));
        due(1, () -> in(ALL_PACKAGES).seize(9, 0));
        due(NEXT_SYMBOL, () -> in(ALL_PACKAGES).shadow(9, A));
        due(0, () -> in(ALL_PACKAGES).unintern(9, 0));
        refused(FULL, () -> in(ALL_PACKAGES).listed(9, 0));
        due(0, () -> in(ALL_PACKAGES).look(9, 0));
    }

    private static void noNameIsAnotherOnes() {
        String[] taken = {"K", "P1", "N", "M", "P2", "O", "P3"};
        for (String name : taken) {
            refusedAlways(BAD, LIVED, h -> h.pack(n(name)));
            refusedAlways(BAD, LIVED, h -> h.nickname(2, n(name)));
            refusedAlways(BAD, LIVED, h -> h.nickname(4, n(name)));
            refusedAlways(BAD, LIVED, h -> h.rename(4, n(name)));
        }
    }

    private static void presentHaveNoTwoOfOneName() {
        SymbolHouse h = in(LIVED);
        due(0, () -> h.intern(1, A));
        due(0, () -> h.shadow(1, A));
        refused(CONFLICT, () -> h.bring(1, 2));
        due(2, () -> h.look(1, 0));
        due(1, () -> h.seize(1, 2));
        due(2, () -> h.look(1, 0));
        due(1102, () -> h.means(1, A));
        due(0, () -> h.about(0, 2));
        SymbolHouse other = in(TWO_SIDES);
        other.choose(2);
        other.use(1, 2);
        due(2, () -> other.look(1, 0));
        due(2, () -> other.look(1, 2));
    }

    private static void packageZeroIsThere() {
        SymbolHouse h = new SymbolHouse();
        due(0, () -> h.find(n("K")));
        due(0, () -> h.look(0, 0));
        refused(FULL, () -> h.listed(0, 0));
        due(-1, () -> h.means(0, A));
        refused(NONE, () -> h.find(n("k")));
        refused(NONE, () -> h.find(n("KK")));
        refusedWhole(BAD, g -> g.choose(0), g -> g.pack(n("K")));
    }

    private static void packageZeroIsLocked() {
        Ask[] calls = {
            h -> h.nickname(0, X), h -> h.rename(0, X), h -> h.rename(0, n("K")), h -> h.drop(0),
            h -> h.use(0, 1), h -> h.use(0, 4), h -> h.unuse(0, 1), h -> h.unuse(0, 0),
            h -> h.export(0, 5), h -> h.export(0, 1), h -> h.unexport(0, 5), h -> h.unexport(0, 1),
            h -> h.bring(0, 5), h -> h.bring(0, 0), h -> h.bring(0, 1),
            h -> h.seize(0, 5), h -> h.seize(0, 0), h -> h.seize(0, 1),
            h -> h.shadow(0, A), h -> h.shadow(0, X), h -> h.unintern(0, 5), h -> h.unintern(0, 1)
        };
        for (Ask call : calls) {
            refusedAlways(LOCKED, LIVED, call);
        }
    }

    private static void lockedIsOnlyPackageZero() {
        SymbolHouse h = in(LIVED);
        due(5, () -> h.intern(0, A));
        due(NEXT_SYMBOL, () -> h.intern(0, X));
        due(NEXT_SYMBOL + 200, () -> h.means(0, X));
        due(NEXT_SYMBOL, () -> h.listed(0, 0));
        due(2, () -> h.look(0, 0));
        due(0, () -> h.unuse(1, 0));
        due(1, () -> h.bring(4, NEXT_SYMBOL));
        due(0, () -> h.about(NEXT_SYMBOL, 0));
    }

    private static void inheritedIsWhatIsExternalInOneUsed() {
        SymbolHouse h = house(4);
        h.intern(1, A);
        h.use(2, 1);
        due(-1, () -> h.means(2, A));
        h.export(1, 0);
        due(300, () -> h.means(2, A));
        h.use(3, 2);
        due(-1, () -> h.means(3, A));
        due(0, () -> h.look(3, 3));
        due(-1, () -> h.means(4, A));
        h.export(2, 0);
        due(300, () -> h.means(3, A));
        h.unuse(3, 2);
        due(-1, () -> h.means(3, A));
    }

    private static void presentIsMeantBeforeInherited() {
        SymbolHouse h = in(LIVED);
        due(1104, () -> h.means(3, B));
        due(4, () -> h.intern(3, B));
        due(300, () -> h.means(3, A));
        due(0, () -> h.intern(3, A));
        due(-1, () -> h.means(4, B));
        h.unintern(3, 4);
        due(301, () -> h.means(3, B));
        h.bring(3, 1);
        due(101, () -> h.means(3, B));
        h.unintern(3, 1);
        h.unuse(3, 1);
        due(-1, () -> h.means(3, B));
    }

    private static void presentAndInheritedAreAConflict() {
        State own = h -> {
            packages(h, 2);
            h.intern(1, A);
            h.intern(2, A);
        };
        refusedWhole(CONFLICT, h -> {
            own.build(h);
            h.export(1, 0);
        }, h -> h.use(2, 1));
        refusedWhole(CONFLICT, h -> {
            own.build(h);
            h.use(2, 1);
        }, h -> h.export(1, 0));
        refusedWhole(CONFLICT, h -> {
            own.build(h);
            h.export(2, 1);
            h.use(2, 1);
        }, h -> h.export(1, 0));
    }

    private static void twoInheritedAreAConflict() {
        refusedWhole(CONFLICT, TWO_SIDES, h -> h.use(3, 2));
        refusedWhole(CONFLICT, h -> {
            TWO_SIDES.build(h);
            h.unexport(2, 1);
            h.unexport(2, 3);
            h.use(3, 2);
        }, h -> h.export(2, 3));
    }

    private static void oneSymbolOnTwoWaysIsNoConflict() {
        SymbolHouse h = house(4);
        h.intern(1, A);
        h.export(1, 0);
        h.bring(2, 0);
        due(1, () -> h.use(2, 1));
        due(100, () -> h.means(2, A));
        due(1, () -> h.use(3, 1));
        due(1, () -> h.use(3, 2));
        due(1, () -> h.export(2, 0));
        due(300, () -> h.means(3, A));
        due(1, () -> h.look(3, 3));
        due(1, () -> h.use(4, 2));
        due(1, () -> h.use(4, 1));
        due(0, () -> h.count(2));
        due(0, () -> h.count(3));
    }

    private static void whatIsNotExternalIsNoConflict() {
        SymbolHouse h = in(TWO_SIDES);
        h.unexport(2, 1);
        h.unexport(2, 3);
        due(1, () -> h.use(3, 2));
        due(300, () -> h.means(3, A));
        due(0, () -> h.count(2));
    }

    private static void presentAndShadowingIsNoConflict() {
        SymbolHouse h = in(TWO_SIDES);
        h.shadow(3, A);
        h.shadow(3, B);
        due(1, () -> h.use(3, 2));
        due(1104, () -> h.means(3, A));
        due(1105, () -> h.means(3, B));
        due(0, () -> h.count(3));
        SymbolHouse later = in(THREE_USERS);
        later.seize(2, 1);
        later.seize(4, 2);
        due(1, () -> later.export(1, 0));
        due(1101, () -> later.means(2, A));
    }

    private static void shadowingElsewhereIsOfNoHelp() {
        refusedWhole(CONFLICT, h -> {
            TWO_SIDES.build(h);
            h.shadow(1, A);
            h.shadow(2, A);
            h.shadow(3, A);
            h.shadow(1, B);
            h.shadow(2, B);
        }, h -> h.use(3, 2));
    }

    /** 0, of 1 at first, is PRESENT and EXTERNAL in 2 and without a HOME; 3 uses 2. */
    private static final State HOMELESS = h -> {
        packages(h, 5);
        h.intern(1, A);
        h.bring(2, 0);
        h.export(2, 0);
        h.unintern(1, 0);
        h.use(3, 2);
    };

    private static void homeIs(int home, State state, Ask call) {
        SymbolHouse h = in(state);
        due(-1, () -> h.about(0, 0));
        call.of(h);
        due(home, () -> h.about(0, 0));
    }

    private static void aSymbolThatBecomesPresentGetsAHome() {
        homeIs(1, HOMELESS, h -> h.bring(1, 0));
        homeIs(3, HOMELESS, h -> h.bring(3, 0));
        homeIs(4, HOMELESS, h -> h.bring(4, 0));
        homeIs(1, HOMELESS, h -> h.seize(1, 0));
        homeIs(3, HOMELESS, h -> h.seize(3, 0));
        homeIs(3, HOMELESS, h -> h.export(3, 0));
        homeIs(4, HOMELESS, h -> h.bring(4, 0) + h.bring(5, 0));
    }

    private static void whatWasPresentGetsNone() {
        homeIs(-1, HOMELESS, h -> h.bring(2, 0));
        homeIs(-1, HOMELESS, h -> h.seize(2, 0));
        homeIs(-1, HOMELESS, h -> h.shadow(2, A));
        homeIs(-1, HOMELESS, h -> h.unexport(2, 0) + h.export(2, 0));
        homeIs(-1, HOMELESS, h -> h.intern(2, A));
        homeIs(-1, HOMELESS, h -> h.intern(3, A));
        homeIs(-1, HOMELESS, h -> h.shadow(3, A));
        homeIs(-1, HOMELESS, h -> h.use(4, 2));
        homeIs(-1, HOMELESS, h -> h.unintern(2, 0));
    }

    private static void aHomeIsKept() {
        SymbolHouse h = in(LIVED);
        h.bring(4, 1);
        h.seize(2, 1);
        h.unuse(2, 3);
        h.export(3, 0);
        h.seize(4, 0);
        due(1, () -> h.about(0, 0));
        due(1, () -> h.about(1, 0));
    }

    private static void settlingGivesAHome() {
        State newIsHomeless = h -> {
            HOMELESS.build(h);
            h.intern(4, A);
        };
        homeIs(4, choosing(2, newIsHomeless), h -> h.use(4, 2));
        homeIs(-1, choosing(1, newIsHomeless), h -> h.use(4, 2));
        State oldIsHomeless = h -> {
            HOMELESS.build(h);
            h.intern(4, A);
            h.export(4, 1);
        };
        homeIs(3, choosing(1, oldIsHomeless), h -> h.use(3, 4));
        homeIs(-1, choosing(2, oldIsHomeless), h -> h.use(3, 4));
        State user = h -> {
            newIsHomeless.build(h);
            h.use(4, 3);
        };
        homeIs(4, choosing(2, user), h -> h.export(3, 0));
        homeIs(3, choosing(1, user), h -> h.export(3, 0));
    }

    private static void withChoiceNoneAllIsRefused() {
        refusedWhole(CONFLICT, TWO_SIDES, h -> h.use(3, 2));
        refusedWhole(CONFLICT, TWO_SIDES, h -> h.use(2, 1));
        refusedWhole(CONFLICT, THREE_USERS, h -> h.export(1, 0));
        refusedWhole(CONFLICT, h -> {
            THREE_USERS.build(h);
            h.shadow(2, A);
        }, h -> h.export(1, 0));
        refusedWhole(CONFLICT, h -> {
            TWO_SIDES.build(h);
            h.shadow(3, A);
        }, h -> h.use(3, 2));
        refusedWhole(CONFLICT, h -> {
            TWO_SIDES.build(h);
            h.choose(2);
            h.choose(0);
        }, h -> h.use(3, 2));
    }

    private static void withChoiceOneTheOldOneStays() {
        SymbolHouse inherited = in(choosing(1, TWO_SIDES));
        due(1, () -> inherited.use(3, 2));
        due(1100, () -> inherited.means(3, A));
        due(1102, () -> inherited.means(3, B));
        due(2, () -> inherited.look(3, 0));
        due(0, () -> inherited.look(3, 1));
        due(2, () -> inherited.look(3, 4));
        due(2, () -> inherited.count(3));
        SymbolHouse present = in(choosing(1, TWO_SIDES));
        due(1, () -> present.use(2, 1));
        due(1201, () -> present.means(2, A));
        due(1203, () -> present.means(2, B));
        due(2, () -> present.about(1, 0));
        SymbolHouse users = in(choosing(1, THREE_USERS));
        due(1, () -> users.export(1, 0));
        due(1101, () -> users.means(2, A));
        due(300, () -> users.means(3, A));
        due(1102, () -> users.means(4, A));
        due(2, () -> users.count(3));
    }

    private static void withChoiceTwoTheNewOneComes() {
        SymbolHouse inherited = in(choosing(2, TWO_SIDES));
        due(1, () -> inherited.use(3, 2));
        due(1101, () -> inherited.means(3, A));
        due(1103, () -> inherited.means(3, B));
        due(1, () -> inherited.about(0, 0));
        due(2, () -> inherited.look(3, 4));
        due(2, () -> inherited.count(3));
        SymbolHouse present = in(choosing(2, TWO_SIDES));
        due(1, () -> present.use(1, 2));
        due(1101, () -> present.means(1, A));
        due(1103, () -> present.means(1, B));
        due(-1, () -> present.about(0, 0));
        due(-1, () -> present.about(2, 0));
        due(-1, () -> present.means(3, A));
        due(0, () -> present.about(0, 2));
        SymbolHouse users = in(choosing(2, THREE_USERS));
        due(1, () -> users.export(1, 0));
        due(1100, () -> users.means(2, A));
        due(300, () -> users.means(3, A));
        due(1100, () -> users.means(4, A));
        due(3, () -> users.about(0, 2));
        due(2, () -> users.count(3));
    }

    private static void onlyWhatIsAConflictIsSettled() {
        SymbolHouse h = in(choosing(1, TWO_SIDES));
        h.shadow(3, A);
        h.intern(3, C);
        due(1, () -> h.use(3, 2));
        due(1104, () -> h.means(3, A));
        due(105, () -> h.means(3, C));
        due(1102, () -> h.means(3, B));
        due(1, () -> h.count(3));
        due(0, () -> h.use(3, 2));
        due(1, () -> h.count(3));
        due(0, () -> h.count(2));
    }

    /** 3 (or 2) has an external a, which the other one inherits; both use 1. */
    private static State chain(int first, int second) {
        return h -> {
            packages(h, 3);
            h.use(first, 1);
            h.use(second, first);
            h.use(second, 1);
            h.intern(first, A);
            h.export(first, 0);
            h.intern(1, A);
        };
    }

    private static void settlingGoesByPackages() {
        SymbolHouse gone = in(choosing(2, chain(2, 3)));
        due(1, () -> gone.export(1, 1));
        due(1, () -> gone.count(3));
        due(301, () -> gone.means(3, A));
        due(1101, () -> gone.means(2, A));
        SymbolHouse both = in(choosing(2, chain(3, 2)));
        due(1, () -> both.export(1, 1));
        due(2, () -> both.count(3));
        due(1101, () -> both.means(2, A));
        due(1101, () -> both.means(3, A));
        SymbolHouse kept = in(choosing(1, chain(2, 3)));
        due(1, () -> kept.export(1, 1));
        due(2, () -> kept.count(3));
        due(1100, () -> kept.means(3, A));
        due(1200, () -> kept.means(2, A));
    }

    private static void uninternHasNothingToChoose() {
        refusedAlways(CONFLICT, h -> {
            TWO_SIDES.build(h);
            h.shadow(3, A);
            h.shadow(3, B);
            h.use(3, 2);
        }, h -> h.unintern(3, 4));
    }

    private static void anObjectIsGoodForAllItsCalls() {
        SymbolHouse refusing = in(TWO_SIDES);
        for (int call = 13; call <= 511; call++) {
            refused(CONFLICT, () -> refusing.use(3, 2));
        }
        due(499, () -> refusing.count(2));
        SymbolHouse settling = in(choosing(1, TWO_SIDES));
        for (int turn = 0; turn < 120; turn++) {
            due(1, () -> settling.use(3, 2));
            due(1, () -> settling.unuse(3, 2));
            due(1, () -> settling.unintern(3, 0));
            due(1, () -> settling.unintern(3, 2));
        }
        due(240, () -> settling.count(3));
        SymbolHouse packing = new SymbolHouse();
        for (int turn = 0; turn < 250; turn++) {
            due(1, () -> packing.pack(A));
            due(0, () -> packing.drop(1));
        }
        due(1, () -> packing.count(0));
    }

    public static void main(String[] args) {
        sentence("NAMES are 1 letter at least", TermsTest::namesHaveALetter);
        sentence("NAMES are 8 letters at most", TermsTest::namesHaveUpToEightLetters);
        sentence("letters are 33..126", TermsTest::everyLetterIsGood);
        sentence("letters are none but 33..126", TermsTest::nothingElseIsALetter);
        sentence("up to the first 8 bits that are 0", TermsTest::namesEndAtTheFirstZero);
        sentence("each letter tells NAMES apart", TermsTest::everyLetterTells);
        sentence("SYMBOLS are numbered from 0 as they are made",
            TermsTest::symbolsAreNumberedAsTheyAreMade);
        sentence("60 SYMBOLS at most", TermsTest::sixtySymbolsAtMost);
        sentence("NONE: a SYMBOL is not there", TermsTest::symbolsThatAreNotThere);
        sentence("SYMBOL 59 is there", TermsTest::theLastSymbolIsThere);
        sentence("NONE: a PACKAGE is not there", TermsTest::packagesThatAreNotThere);
        sentence("PACKAGE 9 is there", TermsTest::theLastPackageIsThere);
        sentence("none is another one's, of any PACKAGE", TermsTest::noNameIsAnotherOnes);
        sentence("PRESENT: no two of one NAME", TermsTest::presentHaveNoTwoOfOneName);
        sentence("0 is there, without SYMBOLS; its NAME is K", TermsTest::packageZeroIsThere);
        sentence("0 is LOCKED", TermsTest::packageZeroIsLocked);
        sentence("0 is LOCKED only where that is named", TermsTest::lockedIsOnlyPackageZero);
        sentence("INHERITED: EXTERNAL in one that p USES",
            TermsTest::inheritedIsWhatIsExternalInOneUsed);
        sentence("PRESENT, else INHERITED, else nothing", TermsTest::presentIsMeantBeforeInherited);
        sentence("CONFLICT: PRESENT and INHERITED", TermsTest::presentAndInheritedAreAConflict);
        sentence("CONFLICT: two INHERITED", TermsTest::twoInheritedAreAConflict);
        sentence("CONFLICT: two different SYMBOLS", TermsTest::oneSymbolOnTwoWaysIsNoConflict);
        sentence("CONFLICT: not EXTERNAL, not INHERITED", TermsTest::whatIsNotExternalIsNoConflict);
        sentence("CONFLICT: none is PRESENT and SHADOWING",
            TermsTest::presentAndShadowingIsNoConflict);
        sentence("CONFLICT: SHADOWING in p", TermsTest::shadowingElsewhereIsOfNoHelp);
        sentence("a SYMBOL without a HOME becomes PRESENT",
            TermsTest::aSymbolThatBecomesPresentGetsAHome);
        sentence("a SYMBOL without a HOME was PRESENT", TermsTest::whatWasPresentGetsNone);
        sentence("a SYMBOL with a HOME keeps it", TermsTest::aHomeIsKept);
        sentence("a SYMBOL without a HOME is SETTLED", TermsTest::settlingGivesAHome);
        sentence("CHOICE 0: refused as CONFLICT", TermsTest::withChoiceNoneAllIsRefused);
        sentence("with 1 the SYMBOL that was meant", TermsTest::withChoiceOneTheOldOneStays);
        sentence("with 2 the new one", TermsTest::withChoiceTwoTheNewOneComes);
        sentence("each CONFLICT is SETTLED, and nothing else",
            TermsTest::onlyWhatIsAConflictIsSettled);
        sentence("by PACKAGES, if it would still be one", TermsTest::settlingGoesByPackages);
        sentence("for unintern there is nothing to choose", TermsTest::uninternHasNothingToChoose);
        sentence("at most 512 calls", TermsTest::anObjectIsGoodForAllItsCalls);
        finish();
    }
}
