import java.util.NoSuchElementException;

/**
 * The packages of a Lisp: symbols are found by their names in packages that use one another, and
 * no name ever means two things in one package.
 */
public final class SymbolHouse {
    private static final int PACKAGE_LIMIT = 10;
    private static final int SYMBOL_LIMIT = 60;
    private static final int NICKNAME_LIMIT = 2;
    private static final int LETTER_LIMIT = 8;
    private static final int LOWEST_LETTER = 33;
    private static final int HIGHEST_LETTER = 126;
    private static final int TOP_LETTER_SHIFT = 56;

    private static final int LOCKED_PACKAGE = 0;
    private static final long LOCKED_NAME = (long) 'K' << TOP_LETTER_SHIFT;

    private static final int NOTHING = -1;
    private static final long NO_NAME = 0L;

    private static final int REFUSE = 0;
    private static final int KEEP_OLD = 1;
    private static final int TAKE_NEW = 2;

    /**
     * One package. Sets of symbols and of packages are the bits of a long, which 60 symbols fit,
     * so that no call has to make a row.
     */
    private static final class Pack {
        private boolean there;
        private long name;
        private final long[] nicknames = new long[NICKNAME_LIMIT];
        private int nicknameCount;
        private long present;
        private long external;
        private long shadowing;
        private long used;

        private void open(long newName) {
            there = true;
            name = newName;
        }

        private void close() {
            there = false;
            name = NO_NAME;
            nicknameCount = 0;
            present = 0L;
            external = 0L;
            shadowing = 0L;
            used = 0L;
        }

        private boolean isCalled(long asked) {
            if (!there) {
                return false;
            }
            for (int i = 0; i < nicknameCount; i++) {
                if (nicknames[i] == asked) {
                    return true;
                }
            }
            return name == asked;
        }
    }

    private final Pack[] packages = new Pack[PACKAGE_LIMIT];
    private final long[] symbolNames = new long[SYMBOL_LIMIT];
    private final int[] homes = new int[SYMBOL_LIMIT];
    private int symbolCount;
    private int choice = REFUSE;
    private int refusedCount;
    private int settledCount;

    public SymbolHouse() {
        for (int p = 0; p < PACKAGE_LIMIT; p++) {
            packages[p] = new Pack();
        }
        packages[LOCKED_PACKAGE].open(LOCKED_NAME);
    }

    // Packages and their names

    public int pack(long name) throws IllegalArgumentException, IndexOutOfBoundsException {
        long read = needName(name);
        needFreeName(read, NOTHING);
        for (int p = 0; p < PACKAGE_LIMIT; p++) {
            if (!packages[p].there) {
                packages[p].open(read);
                return p;
            }
        }
        throw new IndexOutOfBoundsException();
    }

    public int nickname(int p, long name) throws NoSuchElementException, UnsupportedOperationException, IllegalArgumentException, IndexOutOfBoundsException {
        needPackage(p);
        needUnlocked(p);
        long read = needName(name);
        needFreeName(read, NOTHING);
        Pack pack = packages[p];
        if (pack.nicknameCount >= NICKNAME_LIMIT) {
            throw new IndexOutOfBoundsException();
        }
        pack.nicknames[pack.nicknameCount] = read;
        pack.nicknameCount++;
        return pack.nicknameCount;
    }

    public int rename(int p, long name) throws NoSuchElementException, UnsupportedOperationException, IllegalArgumentException {
        needPackage(p);
        needUnlocked(p);
        long read = needName(name);
        needFreeName(read, p);
        packages[p].name = read;
        packages[p].nicknameCount = 0;
        return 1;
    }

    public int drop(int p) throws NoSuchElementException, UnsupportedOperationException, IllegalStateException {
        needPackage(p);
        needUnlocked(p);
        if (usersOf(p) != 0L) {
            refuseConflict();
        }
        int dropped = Long.bitCount(packages[p].present);
        for (int s = 0; s < symbolCount; s++) {
            if (homes[s] == p) {
                homes[s] = NOTHING;
            }
        }
        packages[p].close();
        return dropped;
    }

    public int find(long name) throws IllegalArgumentException, NoSuchElementException {
        int p = packageCalled(needName(name));
        if (p == NOTHING) {
            throw new NoSuchElementException();
        }
        return p;
    }

    // Packages that use one another

    public int choose(int c) throws IllegalArgumentException {
        if (c < REFUSE || c > TAKE_NEW) {
            throw new IllegalArgumentException();
        }
        int before = choice;
        choice = c;
        return before;
    }

    public int use(int p, int q) throws NoSuchElementException, UnsupportedOperationException, IllegalArgumentException, IllegalStateException {
        needPackage(p);
        needPackage(q);
        needUnlocked(p);
        if (p == q || q == LOCKED_PACKAGE) {
            throw new IllegalArgumentException();
        }
        if (holds(packages[p].used, q)) {
            return 0;
        }
        clearTheWay(only(p), packages[q].external);
        packages[p].used |= only(q);
        return 1;
    }

    public int unuse(int p, int q) throws NoSuchElementException, UnsupportedOperationException {
        needPackage(p);
        needPackage(q);
        needUnlocked(p);
        if (!holds(packages[p].used, q)) {
            return 0;
        }
        packages[p].used &= ~only(q);
        return 1;
    }

    // Symbols in packages

    public int intern(int p, long name) throws NoSuchElementException, IllegalArgumentException, IndexOutOfBoundsException {
        needPackage(p);
        long read = needName(name);
        int s = meaning(p, read);
        if (s != NOTHING) {
            return s;
        }
        s = makeSymbol(p, read);
        if (p == LOCKED_PACKAGE) {
            packages[p].external |= only(s);
        }
        return s;
    }

    public int means(int p, long name) throws NoSuchElementException, IllegalArgumentException {
        needPackage(p);
        int s = meaning(p, needName(name));
        if (s == NOTHING) {
            return NOTHING;
        }
        Pack pack = packages[p];
        int answer = s;
        if (holds(pack.external, s)) {
            answer += 200;
        } else if (holds(pack.present, s)) {
            answer += 100;
        } else {
            answer += 300;
        }
        return holds(pack.shadowing, s) ? answer + 1000 : answer;
    }

    public int export(int p, int s) throws NoSuchElementException, UnsupportedOperationException, IllegalArgumentException, IllegalStateException {
        needPackage(p);
        needSymbol(s);
        needUnlocked(p);
        if (meaning(p, symbolNames[s]) != s) {
            throw new IllegalArgumentException();
        }
        if (holds(packages[p].external, s)) {
            return 0;
        }
        clearTheWay(usersOf(p), only(s));
        makePresent(p, s);
        packages[p].external |= only(s);
        return 1;
    }

    public int unexport(int p, int s) throws NoSuchElementException, UnsupportedOperationException {
        needPackage(p);
        needSymbol(s);
        needUnlocked(p);
        if (!holds(packages[p].external, s)) {
            return 0;
        }
        packages[p].external &= ~only(s);
        return 1;
    }

    public int bring(int p, int s) throws NoSuchElementException, UnsupportedOperationException, IllegalStateException {
        needPackage(p);
        needSymbol(s);
        needUnlocked(p);
        if (holds(packages[p].present, s)) {
            return 0;
        }
        int meant = meaning(p, symbolNames[s]);
        if (meant != NOTHING && meant != s) {
            refuseConflict();
        }
        makePresent(p, s);
        return 1;
    }

    public int seize(int p, int s) throws NoSuchElementException, UnsupportedOperationException {
        needPackage(p);
        needSymbol(s);
        needUnlocked(p);
        if (holds(packages[p].shadowing, s)) {
            return 0;
        }
        putShadowing(p, s);
        return 1;
    }

    public int shadow(int p, long name) throws NoSuchElementException, UnsupportedOperationException, IllegalArgumentException, IndexOutOfBoundsException {
        needPackage(p);
        needUnlocked(p);
        long read = needName(name);
        long own = packages[p].present & named(read);
        int s = own != 0L ? lowest(own) : makeSymbol(p, read);
        packages[p].shadowing |= only(s);
        return s;
    }

    public int unintern(int p, int s) throws NoSuchElementException, UnsupportedOperationException, IllegalStateException {
        needPackage(p);
        needSymbol(s);
        needUnlocked(p);
        Pack pack = packages[p];
        if (!holds(pack.present, s)) {
            return 0;
        }
        if (holds(pack.shadowing, s) && Long.bitCount(inherited(p) & namesakes(s)) > 1) {
            refuseConflict();
        }
        takeOut(p, s);
        return 1;
    }

    // What can be asked

    public int listed(int p, int k) throws NoSuchElementException, IndexOutOfBoundsException {
        needPackage(p);
        long meant = meantIn(p);
        for (int s = 0; s < symbolCount; s++) {
            if (holds(meant, s) && namesBefore(meant, s) == k) {
                return s;
            }
        }
        throw new IndexOutOfBoundsException();
    }

    public int all(long name, int k) throws IllegalArgumentException, IndexOutOfBoundsException {
        long kept = named(needName(name)) & presentAnywhere();
        int before = 0;
        for (int s = 0; s < symbolCount; s++) {
            if (!holds(kept, s)) {
                continue;
            }
            if (before == k) {
                return s;
            }
            before++;
        }
        throw new IndexOutOfBoundsException();
    }

    public int about(int s, int what) throws NoSuchElementException, IllegalArgumentException {
        needSymbol(s);
        switch (what) {
            case 0:
                return homes[s];
            case 1:
                return lettersOf(symbolNames[s]);
            case 2:
                return packagesThatHold(s);
            case 3:
                return packagesThatMean(s);
            default:
                throw new IllegalArgumentException();
        }
    }

    public int look(int p, int what) throws NoSuchElementException, IllegalArgumentException {
        needPackage(p);
        Pack pack = packages[p];
        switch (what) {
            case 0:
                return Long.bitCount(pack.present);
            case 1:
                return Long.bitCount(pack.external);
            case 2:
                return Long.bitCount(pack.shadowing);
            case 3:
                // What is PRESENT and INHERITED at once is INHERITED by the document's own term.
                return Long.bitCount(inherited(p) & meantIn(p));
            case 4:
                return Long.bitCount(pack.used);
            case 5:
                return Long.bitCount(usersOf(p));
            case 6:
                return pack.nicknameCount;
            default:
                throw new IllegalArgumentException();
        }
    }

    public int count(int what) throws IllegalArgumentException {
        switch (what) {
            case 0:
                return packageCount();
            case 1:
                return symbolCount;
            case 2:
                return refusedCount;
            case 3:
                return settledCount;
            default:
                throw new IllegalArgumentException();
        }
    }

    // What a call needs before it begins

    private void needPackage(int p) {
        if (p < 0 || p >= PACKAGE_LIMIT || !packages[p].there) {
            throw new NoSuchElementException();
        }
    }

    private void needSymbol(int s) {
        if (s < 0 || s >= symbolCount) {
            throw new NoSuchElementException();
        }
    }

    private static void needUnlocked(int p) {
        if (p == LOCKED_PACKAGE) {
            throw new UnsupportedOperationException();
        }
    }

    private static long needName(long given) {
        long read = readName(given);
        if (read == NO_NAME) {
            throw new IllegalArgumentException();
        }
        return read;
    }

    private void needFreeName(long name, int exceptFor) {
        int holder = packageCalled(name);
        if (holder != NOTHING && holder != exceptFor) {
            throw new IllegalArgumentException();
        }
    }

    private void refuseConflict() {
        refusedCount++;
        throw new IllegalStateException();
    }

    // Names

    /**
     * Inside, the first letter stands highest: then the order of the longs is the order of the
     * NAMES, and whatever was given behind the first 8 bits that are 0 is gone.
     */
    private static long readName(long given) {
        long read = NO_NAME;
        for (int i = 0; i < LETTER_LIMIT; i++) {
            long letter = (given >>> (8 * i)) & 255L;
            if (letter == 0L) {
                break;
            }
            if (letter < LOWEST_LETTER || letter > HIGHEST_LETTER) {
                return NO_NAME;
            }
            read |= letter << (TOP_LETTER_SHIFT - 8 * i);
        }
        return read;
    }

    private static int lettersOf(long name) {
        int letters = 0;
        for (int i = 0; i < LETTER_LIMIT; i++) {
            if (((name >>> (8 * i)) & 255L) != 0L) {
                letters++;
            }
        }
        return letters;
    }

    private int packageCalled(long name) {
        for (int p = 0; p < PACKAGE_LIMIT; p++) {
            if (packages[p].isCalled(name)) {
                return p;
            }
        }
        return NOTHING;
    }

    // Sets as bits

    private static long only(int member) {
        return 1L << member;
    }

    private static boolean holds(long set, int member) {
        return (set & only(member)) != 0L;
    }

    private static int lowest(long set) {
        return Long.numberOfTrailingZeros(set);
    }

    private long named(long name) {
        long set = 0L;
        for (int s = 0; s < symbolCount; s++) {
            if (symbolNames[s] == name) {
                set |= only(s);
            }
        }
        return set;
    }

    private long namesakes(int s) {
        return named(symbolNames[s]);
    }

    private long usersOf(int q) {
        long users = 0L;
        for (int p = 0; p < PACKAGE_LIMIT; p++) {
            if (holds(packages[p].used, q)) {
                users |= only(p);
            }
        }
        return users;
    }

    private long inherited(int p) {
        long set = 0L;
        for (int q = 0; q < PACKAGE_LIMIT; q++) {
            if (holds(packages[p].used, q)) {
                set |= packages[q].external;
            }
        }
        return set;
    }

    private long presentAnywhere() {
        long set = 0L;
        for (int p = 0; p < PACKAGE_LIMIT; p++) {
            set |= packages[p].present;
        }
        return set;
    }

    // What names mean

    private int meaning(int p, long name) {
        long so = named(name);
        long own = packages[p].present & so;
        if (own != 0L) {
            return lowest(own);
        }
        long heard = inherited(p) & so;
        return heard != 0L ? lowest(heard) : NOTHING;
    }

    private long meantIn(int p) {
        long present = packages[p].present;
        long heard = inherited(p);
        long meant = present;
        for (int s = 0; s < symbolCount; s++) {
            if (holds(heard, s) && (present & namesakes(s)) == 0L) {
                meant |= only(s);
            }
        }
        return meant;
    }

    private int namesBefore(long set, int s) {
        int before = 0;
        for (int other = 0; other < symbolCount; other++) {
            if (holds(set, other) && symbolNames[other] < symbolNames[s]) {
                before++;
            }
        }
        return before;
    }

    private int packagesThatHold(int s) {
        int holders = 0;
        for (int p = 0; p < PACKAGE_LIMIT; p++) {
            if (holds(packages[p].present, s)) {
                holders++;
            }
        }
        return holders;
    }

    private int packagesThatMean(int s) {
        int places = 0;
        for (int p = 0; p < PACKAGE_LIMIT; p++) {
            if (meaning(p, symbolNames[s]) == s) {
                places++;
            }
        }
        return places;
    }

    private int packageCount() {
        int there = 0;
        for (int p = 0; p < PACKAGE_LIMIT; p++) {
            if (packages[p].there) {
                there++;
            }
        }
        return there;
    }

    // Changes that several calls share

    private int makeSymbol(int p, long name) {
        if (symbolCount >= SYMBOL_LIMIT) {
            throw new IndexOutOfBoundsException();
        }
        int s = symbolCount;
        symbolCount++;
        symbolNames[s] = name;
        homes[s] = NOTHING;
        makePresent(p, s);
        return s;
    }

    /** A symbol that is here already keeps having no home: it does not become present. */
    private void makePresent(int p, int s) {
        if (holds(packages[p].present, s)) {
            return;
        }
        packages[p].present |= only(s);
        if (homes[s] == NOTHING) {
            homes[s] = p;
        }
    }

    private void takeOut(int p, int s) {
        Pack pack = packages[p];
        pack.present &= ~only(s);
        pack.external &= ~only(s);
        pack.shadowing &= ~only(s);
        if (homes[s] == p) {
            homes[s] = NOTHING;
        }
    }

    private void putShadowing(int p, int s) {
        long rivals = packages[p].present & namesakes(s) & ~only(s);
        if (rivals != 0L) {
            takeOut(p, lowest(rivals));
        }
        makePresent(p, s);
        packages[p].shadowing |= only(s);
    }

    // Conflicts and their settling

    /** Refuses or settles what would be a conflict if the heirs newly inherited the newcomers. */
    private void clearTheWay(long heirs, long newcomers) {
        for (int p = 0; p < PACKAGE_LIMIT; p++) {
            if (holds(heirs, p)) {
                clearTheWayIn(p, newcomers);
            }
        }
    }

    private void clearTheWayIn(int p, long newcomers) {
        for (int s = 0; s < symbolCount; s++) {
            long rivals = holds(newcomers, s) ? rivalsOf(p, s) : 0L;
            if (rivals == 0L) {
                continue;
            }
            if (choice == REFUSE) {
                refuseConflict();
            }
            // There was no conflict before, so the one rival is what the name meant.
            putShadowing(p, choice == KEEP_OLD ? lowest(rivals) : s);
            settledCount++;
        }
    }

    /** Empty also if a shadowing symbol keeps the newcomer from making a conflict. */
    private long rivalsOf(int p, int s) {
        Pack pack = packages[p];
        long namesakes = namesakes(s);
        if ((pack.shadowing & namesakes) != 0L) {
            return 0L;
        }
        return (pack.present | inherited(p)) & namesakes & ~only(s);
    }
}
