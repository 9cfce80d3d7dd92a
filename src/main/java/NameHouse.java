import java.util.NoSuchElementException;

/**
 * A house of names: things named in scopes within one another and the uses that mean them, a book
 * of words by which names are read, better names offered, and renames made in one turn just if each
 * use means what it meant.
 */
public final class NameHouse {
    public static final int NONE = -1;

    private static final int NOTHING = -2;

    private static final int SCOPES = 20;
    private static final int THINGS = 80;
    private static final int USES = 150;
    private static final int WORDS = 60;
    private static final int NAME_BYTES = 24;
    private static final int WORD_LETTERS = 12;
    private static final int TAPE_BYTES = 200;
    private static final int FED_BYTES = 20;
    private static final int KINDS = 3;
    private static final int ALL_ROLES = 15;
    private static final int OPENINGS = 60;
    private static final int PATTERN_PARTS = 4;
    private static final int FIRST_USE_THAT_HINDERS = 1000;

    private static final int LOW_CAMEL = 0;
    private static final int HIGH_CAMEL = 1;
    private static final int LOW_SNAKE = 2;
    private static final int HIGH_SNAKE = 3;

    private static final int FINE = 0;
    private static final int NO_SUCH = 1;
    private static final int NO_NAME = 2;
    private static final int NO_ROOM = 3;
    private static final int THERE_ALREADY = 4;
    private static final int NOT_SAFE = 5;
    private static final int MEANS_NONE = 6;

    private final Text tape = new Text(TAPE_BYTES);
    private final Text taken = new Text(NAME_BYTES);
    private final Text draft = new Text(NAME_BYTES);
    private final Text shown = new Text(NAME_BYTES);
    private final Cut cut = new Cut();
    private final Book book = new Book();
    private final Scopes scopes = new Scopes();
    private final Things things = new Things();
    private final Uses uses = new Uses();
    private final Renames pending = new Renames();
    private final Renames former = new Renames();
    private final boolean[] wanted = new boolean[THINGS];
    private final int[] patterns = new int[THINGS];
    private boolean backReady = false;
    private int lastTrouble = FINE;

    public NameHouse() {
    }

    // ---- the tape

    public int feed(int a, int b, int c, int d, int e) {
        if (tape.size() + FED_BYTES > TAPE_BYTES) {
            return NONE;
        }
        tape.addNumber(a);
        tape.addNumber(b);
        tape.addNumber(c);
        tape.addNumber(d);
        tape.addNumber(e);
        return tape.size();
    }

    /** A wrong n leaves the tape; bytes that are there but no NAME or WORD go from it too. */
    private boolean isOnTape(int n) {
        return n >= 0 && n <= tape.size();
    }

    private void take(int n) {
        taken.clear();
        for (int i = 0; i < n; i++) {
            taken.add(tape.at(i));
        }
        tape.clear();
    }

    /** Whether the first n bytes of the tape are a NAME, which is then the text taken. */
    private boolean takesName(int n) {
        if (!isOnTape(n)) {
            return false;
        }
        take(n);
        return taken.isName();
    }

    /** Whether the first n bytes of the tape are a WORD, which is then the text taken. */
    private boolean takesWord(int n) {
        if (!isOnTape(n)) {
            return false;
        }
        take(n);
        return taken.isWord();
    }

    // ---- things and uses

    public int scope(int around) {
        if (!scopes.has(around)) {
            return refused(NO_SUCH);
        }
        if (scopes.isFull()) {
            return refused(NO_ROOM);
        }
        return accepted(scopes.addWithin(around));
    }

    public int thing(int scope, int kind, int n) {
        if (!scopes.has(scope)) {
            return refused(NO_SUCH);
        }
        // A wrong KIND leaves the tape, so it is looked at before the tape is taken.
        if (!isKind(kind) || !takesName(n)) {
            return refused(NO_NAME);
        }
        if (isNameOfOther(NONE, scope, taken, false) || wouldCatchUse(scope, taken, false)) {
            return refused(THERE_ALREADY);
        }
        if (things.isFull()) {
            return refused(NO_ROOM);
        }
        backReady = false;
        return accepted(things.add(scope, kind, taken));
    }

    public int use(int scope, int n) {
        if (!scopes.has(scope)) {
            return refused(NO_SUCH);
        }
        if (!takesName(n)) {
            return refused(NO_NAME);
        }
        int meant = thingMeant(scope, taken, false);
        if (meant == NOTHING) {
            return refused(MEANS_NONE);
        }
        if (uses.isFull()) {
            return refused(NO_ROOM);
        }
        backReady = false;
        return accepted(uses.add(scope, meant));
    }

    public int about(int thing, int what) {
        if (!things.has(thing)) {
            return NONE;
        }
        switch (what) {
            case 0:
                return things.scopeOf(thing);
            case 1:
                return things.kindOf(thing);
            case 2:
                return things.nameOf(thing).size();
            case 3:
                cut.split(things.nameOf(thing));
                return cut.size();
            case 4:
                return things.nameOf(thing).style();
            case 5:
                return patternOf(thing);
            case 6:
                return uses.howManyMean(thing);
            default:
                return NONE;
        }
    }

    public int name(int thing, int i) throws NoSuchElementException {
        if (!things.has(thing) || !things.nameOf(thing).has(i)) {
            throw new NoSuchElementException("no such byte of a name");
        }
        return things.nameOf(thing).at(i);
    }

    public int means(int use, int what) {
        if (!uses.has(use)) {
            return NONE;
        }
        if (what == 0) {
            return uses.scopeOf(use);
        }
        return what == 1 ? uses.thingOf(use) : NONE;
    }

    public int find(int scope, int n) {
        if (!scopes.has(scope)) {
            return refused(NO_SUCH);
        }
        if (!takesName(n)) {
            return refused(NO_NAME);
        }
        return accepted(thingMeant(scope, taken, false));
    }

    private static boolean isKind(int kind) {
        return kind >= 0 && kind < KINDS;
    }

    /** Whether the scope has a thing of that name beside the one told. */
    private boolean isNameOfOther(int thing, int scope, Text newName, boolean then) {
        for (int t = 0; t < things.size(); t++) {
            if (t != thing && things.scopeOf(t) == scope
                    && nameNowOrThen(t, then).same(newName)) {
                return true;
            }
        }
        return false;
    }

    /** Whether a use would mean a thing of that scope and name in place of one further out. */
    private boolean wouldCatchUse(int scope, Text newName, boolean then) {
        for (int u = 0; u < uses.size(); u++) {
            int meant = uses.thingOf(u);
            // Both scopes are around the use, so the one with the greater number is the nearer.
            if (scope > things.scopeOf(meant)
                    && scopes.isWithin(uses.scopeOf(u), scope)
                    && nameNowOrThen(meant, then).same(newName)) {
                return true;
            }
        }
        return false;
    }

    /** The name that a thing has, or has then if the renames told are made. */
    private Text nameNowOrThen(int thing, boolean then) {
        return then && pending.has(thing) ? pending.nameOf(thing) : things.nameOf(thing);
    }

    /** The thing that a use of the name in the scope means, with or without the renames told. */
    private int thingMeant(int scope, Text usedName, boolean then) {
        int found = NOTHING;
        int nearest = NONE;
        // Of the scopes around the use the nearest has the greatest number.
        for (int t = 0; t < things.size(); t++) {
            int home = things.scopeOf(t);
            if (home > nearest && scopes.isWithin(scope, home)
                    && nameNowOrThen(t, then).same(usedName)) {
                found = t;
                nearest = home;
            }
        }
        return found;
    }

    // ---- the book

    public int word(int roles, int n) {
        // Wrong ROLES leave the tape, so they are looked at before the tape is taken.
        if (roles < 0 || roles > ALL_ROLES || !takesWord(n)) {
            return refused(NO_NAME);
        }
        cut.split(taken);
        long key = cut.keyOf(0);
        if (book.numberOf(key) != NOTHING) {
            return refused(THERE_ALREADY);
        }
        if (book.isFull()) {
            return refused(NO_ROOM);
        }
        return accepted(book.add(key, roles));
    }

    public boolean shorts(int word, int other) {
        boolean known = book.has(word) && (other == NONE || book.has(other)) && word != other;
        lastTrouble = known ? FINE : NO_SUCH;
        if (known) {
            book.setShort(word, other);
        }
        return known;
    }

    public boolean alike(int one, int other) {
        boolean known = book.has(one) && book.has(other);
        lastTrouble = known ? FINE : NO_SUCH;
        if (known) {
            book.join(one, other);
        }
        return known;
    }

    public int told(int word, int what) {
        if (!book.has(word)) {
            return NONE;
        }
        switch (what) {
            case 0:
                return book.rolesOf(word);
            case 1:
                return book.shortFor(word);
            case 2:
                countUsed();
                return book.usedOf(word);
            case 3:
                countUsed();
                return book.headOf(word);
            case 4:
                return book.groupSize(word);
            default:
                return NONE;
        }
    }

    public int part(int thing, int i) {
        if (!things.has(thing)) {
            return NONE;
        }
        cut.split(things.nameOf(thing));
        return cut.has(i) ? book.numberOf(cut.keyOf(i)) : NONE;
    }

    public int way(int kind) {
        if (!isKind(kind)) {
            return NONE;
        }
        return wayOf(kind);
    }

    public int odd(int kind) {
        if (!isKind(kind)) {
            return NONE;
        }
        int usual = wayOf(kind);
        int odds = 0;
        for (int t = 0; t < things.size(); t++) {
            if (things.kindOf(t) == kind && patterns[t] != usual) {
                odds++;
            }
        }
        return odds;
    }

    public int isOdd(int thing) {
        if (!things.has(thing)) {
            return NONE;
        }
        int usual = wayOf(things.kindOf(thing));
        return patterns[thing] != usual ? 1 : 0;
    }

    public int mixed() {
        countUsed();
        return book.mixedGroups();
    }

    public int strange() {
        int strangers = 0;
        for (int t = 0; t < things.size(); t++) {
            cut.split(things.nameOf(t));
            for (int i = 0; i < cut.size(); i++) {
                if (!cut.isNumber(i) && book.numberOf(cut.keyOf(i)) == NOTHING) {
                    strangers++;
                }
            }
        }
        return strangers;
    }

    private int patternOf(int thing) {
        cut.split(things.nameOf(thing));
        int pattern = 0;
        for (int i = 0; i < cut.size() && i < PATTERN_PARTS; i++) {
            pattern = pattern * 16 + book.roleOf(book.numberOf(cut.keyOf(i)));
        }
        return pattern;
    }

    /** The way of a kind, or NOTHING; the patterns of its things stand in their row then. */
    private int wayOf(int kind) {
        for (int t = 0; t < things.size(); t++) {
            if (things.kindOf(t) == kind) {
                patterns[t] = patternOf(t);
            }
        }
        int best = NOTHING;
        int most = 0;
        for (int t = 0; t < things.size(); t++) {
            if (things.kindOf(t) == kind) {
                int often = howOften(kind, patterns[t]);
                if (often > most || often == most && patterns[t] < best) {
                    best = patterns[t];
                    most = often;
                }
            }
        }
        return best;
    }

    private int howOften(int kind, int pattern) {
        int often = 0;
        for (int t = 0; t < things.size(); t++) {
            if (things.kindOf(t) == kind && patterns[t] == pattern) {
                often++;
            }
        }
        return often;
    }

    /** USED of each word is counted anew, for names and words may have changed. */
    private void countUsed() {
        book.clearUsed();
        for (int t = 0; t < things.size(); t++) {
            cut.split(things.nameOf(t));
            for (int i = 0; i < cut.size(); i++) {
                book.addUsed(book.opened(book.numberOf(cut.keyOf(i))));
            }
        }
    }

    // ---- offers and renames

    public int offer(int thing) {
        if (!things.has(thing)) {
            return refused(NO_SUCH);
        }
        countUsed();
        if (!draftsOffer(thing)) {
            return accepted(NOTHING);
        }
        shown.set(draft);
        return accepted(shown.size());
    }

    public int out(int i) throws NoSuchElementException {
        if (!shown.has(i)) {
            throw new NoSuchElementException("no such byte of the offer");
        }
        return shown.at(i);
    }

    public int rename(int thing, int n) {
        if (!things.has(thing)) {
            return refused(NO_SUCH);
        }
        if (!takesName(n)) {
            return refused(NO_NAME);
        }
        pending.put(thing, taken);
        return accepted(pending.size());
    }

    public int renames() {
        pending.clear();
        countUsed();
        for (int t = 0; t < things.size(); t++) {
            if (draftsOffer(t)) {
                pending.put(t, draft);
            }
        }
        return pending.size();
    }

    public int none() {
        int were = pending.size();
        pending.clear();
        return were;
    }

    public int hinders() {
        int doubled = firstDoubled();
        if (doubled != NOTHING) {
            return doubled;
        }
        int strayed = firstStrayed();
        return strayed == NOTHING ? NOTHING : FIRST_USE_THAT_HINDERS + strayed;
    }

    public int turn() {
        if (firstDoubled() != NOTHING || firstStrayed() != NOTHING) {
            return refused(NOT_SAFE);
        }
        former.clear();
        for (int t = 0; t < things.size(); t++) {
            if (pending.has(t)) {
                former.put(t, things.nameOf(t));
                things.nameOf(t).set(pending.nameOf(t));
            }
        }
        pending.clear();
        backReady = true;
        return accepted(former.size());
    }

    public int back() {
        if (!backReady) {
            return refused(MEANS_NONE);
        }
        for (int t = 0; t < things.size(); t++) {
            if (former.has(t)) {
                things.nameOf(t).set(former.nameOf(t));
            }
        }
        backReady = false;
        return accepted(former.size());
    }

    public int keep() {
        for (int t = 0; t < THINGS; t++) {
            wanted[t] = pending.has(t);
        }
        pending.clear();
        for (int t = 0; t < THINGS; t++) {
            if (wanted[t]) {
                pending.putAgain(t);
                if (!staysSafe(t)) {
                    pending.drop(t);
                }
            }
        }
        return pending.size();
    }

    public int count(int what) {
        switch (what) {
            case 0:
                return scopes.size();
            case 1:
                return things.size();
            case 2:
                return uses.size();
            case 3:
                return book.size();
            case 4:
                return pending.size();
            case 5:
                return shown.size();
            case 6:
                return tape.size();
            default:
                return NONE;
        }
    }

    public int trouble() {
        return lastTrouble;
    }

    private int refused(int why) {
        lastTrouble = why;
        return NONE;
    }

    private int accepted(int answer) {
        lastTrouble = FINE;
        return answer;
    }

    /** Whether there is an offer that isn't the thing's name: the draft. USED must be counted. */
    private boolean draftsOffer(int thing) {
        Text now = things.nameOf(thing);
        int style = now.style();
        draft.clear();
        cut.split(now);
        for (int i = 0; i < cut.size(); i++) {
            if (i > 0 && (style == LOW_SNAKE || style == HIGH_SNAKE)) {
                draft.add('_');
            }
            boolean begins = style == HIGH_CAMEL || style == LOW_CAMEL && i > 0;
            writePart(i, begins, style == HIGH_SNAKE);
        }
        return draft.isName() && !draft.same(now);
    }

    private void writePart(int i, boolean greatFirst, boolean greatAll) {
        int head = book.headOf(book.opened(book.numberOf(cut.keyOf(i))));
        int length = head == NOTHING ? cut.lengthOf(i) : book.lengthOf(head);
        for (int j = 0; j < length; j++) {
            int b = head == NOTHING ? cut.at(i, j) : book.letterOf(head, j);
            draft.add(greatAll || greatFirst && j == 0 ? greatOf(b) : b);
        }
    }

    /**
     * Whether all is safe with the rename of a thing, given that it is without: only what touches
     * that thing is looked at, for with no renames all is safe always.
     */
    private boolean staysSafe(int thing) {
        int home = things.scopeOf(thing);
        Text then = nameNowOrThen(thing, true);
        if (isNameOfOther(thing, home, then, true) || wouldCatchUse(home, then, true)) {
            return false;
        }
        for (int u = 0; u < uses.size(); u++) {
            if (uses.thingOf(u) == thing && isStrayed(u)) {
                return false;
            }
        }
        return true;
    }

    /** The first thing whose name then one of its scope with a lesser number has too. */
    private int firstDoubled() {
        for (int t = 1; t < things.size(); t++) {
            Text then = nameNowOrThen(t, true);
            for (int before = 0; before < t; before++) {
                if (things.scopeOf(before) == things.scopeOf(t)
                        && nameNowOrThen(before, true).same(then)) {
                    return t;
                }
            }
        }
        return NOTHING;
    }

    /** The first use that means another thing then. */
    private int firstStrayed() {
        for (int u = 0; u < uses.size(); u++) {
            if (isStrayed(u)) {
                return u;
            }
        }
        return NOTHING;
    }

    private boolean isStrayed(int use) {
        int meant = uses.thingOf(use);
        return thingMeant(uses.scopeOf(use), nameNowOrThen(meant, true), true) != meant;
    }

    // ---- bytes

    private static boolean isSmall(int b) {
        return b >= 'a' && b <= 'z';
    }

    private static boolean isGreat(int b) {
        return b >= 'A' && b <= 'Z';
    }

    private static boolean isDigit(int b) {
        return b >= '0' && b <= '9';
    }

    private static boolean isLetter(int b) {
        return isSmall(b) || isGreat(b);
    }

    private static int smallOf(int b) {
        return isGreat(b) ? b - 'A' + 'a' : b;
    }

    private static int greatOf(int b) {
        return isSmall(b) ? b - 'a' + 'A' : b;
    }

    /** A row of bytes up to a bound; what would come behind the bound is only remembered. */
    private static final class Text {
        private final int[] bytes;
        private int size = 0;
        private boolean isOver = false;

        Text(int bound) {
            bytes = new int[bound > 0 ? bound : 0];
        }

        int size() {
            return size;
        }

        boolean has(int i) {
            return i >= 0 && i < size;
        }

        /** Byte i, or 0 if there is none. */
        int at(int i) {
            return has(i) ? bytes[i] : 0;
        }

        void clear() {
            size = 0;
            isOver = false;
        }

        void add(int b) {
            if (size < bytes.length) {
                bytes[size] = b;
                size++;
            } else {
                isOver = true;
            }
        }

        void addNumber(int number) {
            for (int shift = 24; shift >= 0; shift -= 8) {
                add(number >> shift & 255);
            }
        }

        void set(Text other) {
            clear();
            for (int i = 0; i < other.size; i++) {
                add(other.bytes[i]);
            }
        }

        boolean same(Text other) {
            if (size != other.size) {
                return false;
            }
            for (int i = 0; i < size; i++) {
                if (bytes[i] != other.bytes[i]) {
                    return false;
                }
            }
            return true;
        }

        boolean isName() {
            if (isOver || size == 0 || size > NAME_BYTES || isDigit(bytes[0])) {
                return false;
            }
            boolean someLetter = false;
            for (int i = 0; i < size; i++) {
                if (isLetter(bytes[i])) {
                    someLetter = true;
                } else if (!isDigit(bytes[i]) && bytes[i] != '_') {
                    return false;
                }
            }
            return someLetter;
        }

        boolean isWord() {
            if (isOver || size == 0 || size > WORD_LETTERS) {
                return false;
            }
            for (int i = 0; i < size; i++) {
                if (!isSmall(bytes[i])) {
                    return false;
                }
            }
            return true;
        }

        int style() {
            boolean someLine = false;
            boolean someGreat = false;
            boolean someSmall = false;
            boolean greatFirst = false;
            for (int i = 0; i < size; i++) {
                int b = bytes[i];
                greatFirst = greatFirst || isGreat(b) && !someSmall;
                someLine = someLine || b == '_';
                someGreat = someGreat || isGreat(b);
                someSmall = someSmall || isSmall(b);
            }
            if (someLine && !someGreat) {
                return LOW_SNAKE;
            }
            if (someLine && !someSmall) {
                return HIGH_SNAKE;
            }
            return greatFirst ? HIGH_CAMEL : LOW_CAMEL;
        }
    }

    /** The PARTS of the name that was split last, their letters small. */
    private static final class Cut {
        private final int[] smalls = new int[NAME_BYTES];
        private final int[] starts = new int[NAME_BYTES];
        private final int[] ends = new int[NAME_BYTES];
        private final long[] keys = new long[NAME_BYTES];
        private int size = 0;

        int size() {
            return size;
        }

        boolean has(int i) {
            return i >= 0 && i < size;
        }

        int lengthOf(int i) {
            return has(i) ? ends[i] - starts[i] : 0;
        }

        /** Byte j of part i, or 0 if there is none. */
        int at(int i, int j) {
            return j >= 0 && j < lengthOf(i) ? smalls[starts[i] + j] : 0;
        }

        boolean isNumber(int i) {
            return isDigit(at(i, 0));
        }

        /** The key by which the book would have a part; 0, which is no word's, if it can't. */
        long keyOf(int i) {
            return has(i) ? keys[i] : 0;
        }

        void split(Text text) {
            size = 0;
            int start = 0;
            int end = Math.min(text.size(), NAME_BYTES);
            for (int i = 0; i < end; i++) {
                smalls[i] = smallOf(text.at(i));
                if (text.at(i) == '_') {
                    add(start, i);
                    start = i + 1;
                } else if (i > start && isCutAhead(text, i)) {
                    add(start, i);
                    start = i;
                }
            }
            add(start, end);
        }

        private void add(int start, int end) {
            if (start >= 0 && start < end && end <= NAME_BYTES && size < NAME_BYTES) {
                starts[size] = start;
                ends[size] = end;
                keys[size] = keyBetween(start, end);
                size++;
            }
        }

        /** Five bits for each letter, the first highest, so that twelve fit into a long. */
        private long keyBetween(int start, int end) {
            if (end - start > WORD_LETTERS) {
                return 0;
            }
            long key = 0;
            for (int i = start; i < end; i++) {
                if (!isSmall(smalls[i])) {
                    return 0;
                }
                key = key * 32 + (smalls[i] - 'a' + 1);
            }
            return key;
        }

        private static boolean isCutAhead(Text text, int i) {
            int left = text.at(i - 1);
            int right = text.at(i);
            if (isDigit(left) != isDigit(right)) {
                return true;
            }
            return isGreat(right) && (isSmall(left) || isGreat(left) && isSmall(text.at(i + 1)));
        }
    }

    /** The words, by number; where a method takes a number that is no word's, it tells so. */
    private static final class Book {
        private final long[] keys = new long[WORDS];
        private final int[] roles = new int[WORDS];
        private final int[] longs = new int[WORDS];
        private final int[] groups = new int[WORDS];
        private final int[] used = new int[WORDS];
        private int size = 0;

        int size() {
            return size;
        }

        boolean isFull() {
            return size >= WORDS;
        }

        boolean has(int w) {
            return w >= 0 && w < size;
        }

        int add(long key, int itsRoles) {
            if (isFull()) {
                return NONE;
            }
            int w = size;
            keys[w] = key;
            roles[w] = itsRoles;
            longs[w] = NONE;
            groups[w] = w;
            size++;
            return w;
        }

        /** The word of that key, or NOTHING. */
        int numberOf(long key) {
            for (int w = 0; w < size; w++) {
                if (keys[w] == key) {
                    return w;
                }
            }
            return NOTHING;
        }

        int lengthOf(int w) {
            long rest = has(w) ? keys[w] : 0;
            int length = 0;
            for (int i = 0; i < WORD_LETTERS && rest != 0; i++) {
                rest = rest >> 5;
                length++;
            }
            return length;
        }

        int letterOf(int w, int i) {
            int behind = lengthOf(w) - 1 - i;
            if (!has(w) || i < 0 || behind < 0) {
                return 0;
            }
            return 'a' - 1 + (int) (keys[w] >> 5 * behind & 31);
        }

        int rolesOf(int w) {
            return has(w) ? roles[w] : 0;
        }

        /** The lowest bit of a word's roles; 0 for no word. */
        int roleOf(int w) {
            int all = rolesOf(w);
            return all & -all;
        }

        int shortFor(int w) {
            return has(w) ? longs[w] : NONE;
        }

        void setShort(int w, int other) {
            if (has(w)) {
                longs[w] = other;
            }
        }

        /** What a word is short for in the end; no word stays what it is. */
        int opened(int w) {
            int open = w;
            for (int i = 0; i < OPENINGS && shortFor(open) != NONE; i++) {
                open = shortFor(open);
            }
            return open;
        }

        void join(int one, int other) {
            if (!has(one) || !has(other)) {
                return;
            }
            int stays = groups[one];
            int goes = groups[other];
            for (int w = 0; w < size; w++) {
                if (groups[w] == goes) {
                    groups[w] = stays;
                }
            }
        }

        int groupSize(int w) {
            int members = 0;
            for (int other = 0; other < size; other++) {
                if (has(w) && groups[other] == groups[w]) {
                    members++;
                }
            }
            return members;
        }

        void clearUsed() {
            for (int w = 0; w < size; w++) {
                used[w] = 0;
            }
        }

        void addUsed(int w) {
            if (has(w)) {
                used[w]++;
            }
        }

        int usedOf(int w) {
            return has(w) ? used[w] : 0;
        }

        /** The word of its group that is used most; NOTHING for no word. */
        int headOf(int w) {
            int head = NOTHING;
            for (int other = 0; other < size; other++) {
                if (has(w) && groups[other] == groups[w]
                        && (head == NOTHING || used[other] > usedOf(head))) {
                    head = other;
                }
            }
            return head;
        }

        /** A group's mark is the number of one of its words, so each is met once. */
        int mixedGroups() {
            int mixedOnes = 0;
            for (int mark = 0; mark < size; mark++) {
                int usedOnes = 0;
                for (int w = 0; w < size; w++) {
                    if (groups[w] == mark && used[w] > 0) {
                        usedOnes++;
                    }
                }
                if (usedOnes > 1) {
                    mixedOnes++;
                }
            }
            return mixedOnes;
        }
    }

    /**
     * The scopes, each with the set of those that it stands in, itself among them, as bits. A scope
     * is told behind the one around it, so of two that one stands in the greater number is nearer.
     */
    private static final class Scopes {
        private final int[] chains = new int[SCOPES];
        private int size = 1;

        Scopes() {
            chains[0] = 1;
        }

        int size() {
            return size;
        }

        boolean isFull() {
            return size >= SCOPES;
        }

        boolean has(int s) {
            return s >= 0 && s < size;
        }

        int addWithin(int around) {
            if (isFull() || !has(around)) {
                return NONE;
            }
            int s = size;
            chains[s] = chains[around] | 1 << s;
            size++;
            return s;
        }

        /** Whether a scope is another one or stands within it, at any depth. */
        boolean isWithin(int s, int other) {
            return has(s) && has(other) && (chains[s] >> other & 1) == 1;
        }
    }

    /** The things with their names now; the numbers taken are those of things that are there. */
    private static final class Things {
        private final int[] scopeRow = new int[THINGS];
        private final int[] kindRow = new int[THINGS];
        private final Text[] nameRow = new Text[THINGS];
        private int size = 0;

        Things() {
            for (int t = 0; t < THINGS; t++) {
                nameRow[t] = new Text(NAME_BYTES);
            }
        }

        int size() {
            return size;
        }

        boolean isFull() {
            return size >= THINGS;
        }

        boolean has(int t) {
            return t >= 0 && t < size;
        }

        int add(int itsScope, int itsKind, Text itsName) {
            if (isFull()) {
                return NONE;
            }
            int t = size;
            scopeRow[t] = itsScope;
            kindRow[t] = itsKind;
            nameRow[t].set(itsName);
            size++;
            return t;
        }

        int scopeOf(int t) {
            return has(t) ? scopeRow[t] : NONE;
        }

        int kindOf(int t) {
            return has(t) ? kindRow[t] : NONE;
        }

        Text nameOf(int t) {
            return nameRow[has(t) ? t : 0];
        }
    }

    /** The uses, each with the thing that it means, whatever name that has. */
    private static final class Uses {
        private final int[] scopeRow = new int[USES];
        private final int[] thingRow = new int[USES];
        private int size = 0;

        int size() {
            return size;
        }

        boolean isFull() {
            return size >= USES;
        }

        boolean has(int u) {
            return u >= 0 && u < size;
        }

        int add(int itsScope, int itsThing) {
            if (isFull()) {
                return NONE;
            }
            int u = size;
            scopeRow[u] = itsScope;
            thingRow[u] = itsThing;
            size++;
            return u;
        }

        int scopeOf(int u) {
            return has(u) ? scopeRow[u] : NONE;
        }

        int thingOf(int u) {
            return has(u) ? thingRow[u] : NONE;
        }

        int howManyMean(int thing) {
            int many = 0;
            for (int u = 0; u < size; u++) {
                if (thingRow[u] == thing) {
                    many++;
                }
            }
            return many;
        }
    }

    /** Of some things another name each. */
    private static final class Renames {
        private final boolean[] isThere = new boolean[THINGS];
        private final Text[] nameRow = new Text[THINGS];
        private int size = 0;

        Renames() {
            for (int t = 0; t < THINGS; t++) {
                nameRow[t] = new Text(NAME_BYTES);
            }
        }

        int size() {
            return size;
        }

        boolean has(int t) {
            return t >= 0 && t < THINGS && isThere[t];
        }

        Text nameOf(int t) {
            return nameRow[t >= 0 && t < THINGS ? t : 0];
        }

        void put(int t, Text itsName) {
            if (t >= 0 && t < THINGS) {
                nameRow[t].set(itsName);
                putAgain(t);
            }
        }

        /** A rename that was there counts again; its name is still in its row. */
        void putAgain(int t) {
            if (t >= 0 && t < THINGS && !isThere[t]) {
                isThere[t] = true;
                size++;
            }
        }

        void drop(int t) {
            if (has(t)) {
                isThere[t] = false;
                size--;
            }
        }

        void clear() {
            for (int t = 0; t < THINGS; t++) {
                isThere[t] = false;
            }
            size = 0;
        }
    }
}
