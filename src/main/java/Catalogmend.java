public final class Catalogmend {
    public static final int NONE = -1;
    public static final int OPEN = 0, GUESSED = 1, DONE = 2;

    private static final int LONGEST_TEXT = 20;
    private static final int MOST_MESSAGES = 12;
    private static final int MOST_ENTRIES = 40;
    private static final int LAST_CONTEXT = 3;
    private static final int MOST_FORMS = 4;
    private static final int FIRST_FORMS = 2;
    private static final int FULL_LIKENESS = 100;
    private static final int FIRST_BOUND = 60;

    private final StringBuilder buffer;
    private final Template template;
    private final Measure measure;
    // A catalogue that stands in one of these three never changes any more:
    // so keeping one is sharing it, and a call that throws has changed nothing.
    private Catalogue current;
    private Catalogue keptElder;
    private Catalogue keptOther;
    private int formCount;
    private int guessBound;

    public Catalogmend() {
        buffer = new StringBuilder();
        template = new Template();
        measure = new Measure();
        current = new Catalogue(0, 0);
        keptElder = null;
        keptOther = null;
        formCount = FIRST_FORMS;
        guessBound = FIRST_BOUND;
    }

    // ---- the buffer

    public int type(char character) throws IllegalArgumentException, IllegalStateException {
        if (!isTypeable(character)) {
            throw new IllegalArgumentException("only a to z, the space and 1 to 3 are typed");
        }
        if (buffer.length() >= LONGEST_TEXT) {
            throw new IllegalStateException("the buffer is full");
        }
        buffer.append(character);
        return buffer.length();
    }

    public int clearText() {
        int before = buffer.length();
        buffer.setLength(0);
        return before;
    }

    // ---- the template

    public int clearTemplate() {
        int before = template.size();
        template.empty();
        return before;
    }

    public int addMessage(int context, boolean isPlural)
            throws IllegalArgumentException, IllegalStateException {
        checkContext(context);
        checkBuffer();
        Key key = typedKey(context, isPlural);
        if (template.has(key)) {
            throw new IllegalStateException("the template has this message");
        }
        if (template.size() >= MOST_MESSAGES) {
            throw new IllegalStateException("the template is full");
        }
        template.append(key);
        return template.size();
    }

    public int messages() {
        return template.size();
    }

    public int setForms(int forms) throws IllegalArgumentException, IllegalStateException {
        if (forms < 1 || forms > MOST_FORMS) {
            throw new IllegalArgumentException("a language has 1 to 4 plural forms");
        }
        if (current.size() > 0 || keptElder != null || keptOther != null) {
            throw new IllegalStateException("there are entries, or something is kept");
        }
        int before = formCount;
        formCount = forms;
        return before;
    }

    public int setBound(int bound) throws IllegalArgumentException {
        if (bound < 1 || bound > FULL_LIKENESS) {
            throw new IllegalArgumentException("a bound is 1 to 100");
        }
        int before = guessBound;
        guessBound = bound;
        return before;
    }

    // ---- merging the template

    public int merge() throws IllegalStateException {
        int room = template.size() + current.size();
        Catalogue merged = new Catalogue(room, template.size());
        int guessed = appendMessages(merged);
        appendObsolete(merged);
        if (merged.size() > MOST_ENTRIES) {
            throw new IllegalStateException("the catalogue would have too many entries");
        }
        current = merged;
        return guessed;
    }

    public int entries() {
        return current.size();
    }

    public int active() {
        return current.activeSize();
    }

    public int find(int context, boolean isPlural) throws IllegalArgumentException {
        checkContext(context);
        return current.numberOf(typedKey(context, isPlural));
    }

    // ---- entries

    public int translate(int entry, int slot) throws IndexOutOfBoundsException, IllegalStateException {
        Entry old = entryAt(entry);
        checkSlot(old, slot);
        checkBuffer();
        if (entry >= current.activeSize()) {
            throw new IllegalStateException("the entry is obsolete");
        }
        Entry translated = old.translated(slot, new Text(buffer.toString()));
        current = current.replaced(entry, translated);
        return translated.openSlots();
    }

    public void confirm(int entry) throws IndexOutOfBoundsException, IllegalStateException {
        Entry old = entryAt(entry);
        if (!old.marked) {
            throw new IllegalStateException("the entry is not marked");
        }
        current = current.replaced(entry, old.withMark(false));
    }

    public int state(int entry) throws IndexOutOfBoundsException {
        return stateOf(entryAt(entry));
    }

    public boolean isMarked(int entry) throws IndexOutOfBoundsException {
        return entryAt(entry).marked;
    }

    public int slots(int entry) throws IndexOutOfBoundsException {
        return entryAt(entry).slotCount();
    }

    public char textAt(int entry, int place) throws IndexOutOfBoundsException {
        Entry asked = entryAt(entry);
        checkPlace(place);
        return letterAt(asked.key.text, place);
    }

    public char translationAt(int entry, int slot, int place) throws IndexOutOfBoundsException {
        Entry asked = entryAt(entry);
        checkSlot(asked, slot);
        checkPlace(place);
        Text translation = asked.translation(slot);
        return translation == null ? ' ' : letterAt(translation.letters, place);
    }

    public int lengthOf(int entry, int slot) throws IndexOutOfBoundsException {
        Entry asked = entryAt(entry);
        checkSlot(asked, slot);
        Text translation = asked.translation(slot);
        return translation == null ? 0 : translation.letters.length();
    }

    public int fault(int entry) throws IndexOutOfBoundsException {
        Entry asked = entryAt(entry);
        int worst = 0;
        for (int slot = 0; slot < asked.slotCount(); slot++) {
            Text translation = asked.translation(slot);
            if (translation != null) {
                worst = Math.max(worst, Digits.faultBetween(asked.key.text, translation.letters));
            }
        }
        return worst;
    }

    public int count(int state) throws IllegalArgumentException {
        if (state != OPEN && state != GUESSED && state != DONE) {
            throw new IllegalArgumentException("no such state");
        }
        int found = 0;
        for (int number = 0; number < current.activeSize(); number++) {
            Entry entry = current.row(number);
            if (entry != null && stateOf(entry) == state) {
                found++;
            }
        }
        return found;
    }

    // ---- guesses

    public int likeness(int entry, int other) throws IndexOutOfBoundsException {
        Entry one = entryAt(entry);
        Entry another = entryAt(other);
        return measure.likenessOf(one.key.text, another.key.text);
    }

    public int guess(int context, boolean isPlural)
            throws IllegalArgumentException, IllegalStateException {
        checkContext(context);
        checkBuffer();
        return guessFor(typedKey(context, isPlural), true);
    }

    public int guessByAll(int context, boolean isPlural)
            throws IllegalArgumentException, IllegalStateException {
        checkContext(context);
        checkBuffer();
        return guessFor(typedKey(context, isPlural), false);
    }

    // ---- keeping and merging catalogues

    public void keep(int place) throws IndexOutOfBoundsException {
        checkKeepingPlace(place);
        if (place == 0) {
            keptElder = current;
        } else {
            keptOther = current;
        }
    }

    public int restore(int place) throws IndexOutOfBoundsException, IllegalStateException {
        checkKeepingPlace(place);
        Catalogue kept = place == 0 ? keptElder : keptOther;
        if (kept == null) {
            throw new IllegalStateException("nothing is kept there");
        }
        current = kept;
        return current.size();
    }

    public int mergeKept() throws IllegalStateException {
        if (keptElder == null || keptOther == null) {
            throw new IllegalStateException("nothing is kept at one of the places");
        }
        ThreeWay threeWay = new ThreeWay(current, keptOther, keptElder);
        Catalogue combined = threeWay.combined();
        if (combined.size() > MOST_ENTRIES) {
            throw new IllegalStateException("the catalogue would have too many entries");
        }
        current = combined;
        return threeWay.clashes;
    }

    // ---- what the calls share

    private static boolean isTypeable(char character) {
        return character >= 'a' && character <= 'z'
                || character == ' '
                || character >= '1' && character <= '3';
    }

    private static void checkContext(int context) {
        if (context < 0 || context > LAST_CONTEXT) {
            throw new IllegalArgumentException("a context is 0 to 3");
        }
    }

    private void checkBuffer() {
        if (buffer.length() == 0) {
            throw new IllegalStateException("the buffer is empty");
        }
    }

    private static void checkSlot(Entry entry, int slot) {
        if (slot < 0 || slot >= entry.slotCount()) {
            throw new IndexOutOfBoundsException("no such slot");
        }
    }

    private static void checkPlace(int place) {
        if (place < 0) {
            throw new IndexOutOfBoundsException("a place is 0 or more");
        }
    }

    private static void checkKeepingPlace(int place) {
        if (place != 0 && place != 1) {
            throw new IndexOutOfBoundsException("catalogues are kept at 0 and 1");
        }
    }

    private Entry entryAt(int number) {
        Entry entry = current.row(number);
        if (entry == null) {
            throw new IndexOutOfBoundsException("no such entry");
        }
        return entry;
    }

    private Key typedKey(int context, boolean isPlural) {
        return new Key(buffer.toString(), context, isPlural);
    }

    private static char letterAt(String text, int place) {
        return place >= 0 && place < text.length() ? text.charAt(place) : ' ';
    }

    private static int stateOf(Entry entry) {
        if (!entry.isFull()) {
            return OPEN;
        }
        return entry.marked ? GUESSED : DONE;
    }

    private int appendMessages(Catalogue merged) {
        int guessed = 0;
        for (int number = 0; number < template.size(); number++) {
            Key key = template.key(number);
            if (key == null) {
                continue;
            }
            Entry old = current.entryWith(key);
            Entry source = old == null ? current.row(guessFor(key, true)) : null;
            if (old != null) {
                merged.append(old);
            } else if (source != null) {
                merged.append(new Entry(key, source.translations, true));
                guessed++;
            } else {
                merged.append(new Entry(key, new Text[slotsFor(key)], false));
            }
        }
        return guessed;
    }

    private void appendObsolete(Catalogue merged) {
        for (int number = 0; number < current.size(); number++) {
            Entry entry = current.row(number);
            if (entry != null && !template.has(entry.key) && entry.hasTranslation()) {
                merged.append(entry);
            }
        }
    }

    private int slotsFor(Key key) {
        return key.plural ? Math.max(1, formCount) : 1;
    }

    private int guessFor(Key key, boolean byLengths) {
        int best = NONE;
        int greatest = guessBound;
        boolean sameContext = false;
        for (int number = 0; number < current.size(); number++) {
            Entry entry = current.row(number);
            if (entry == null || !entry.isFull() || entry.key.plural != key.plural) {
                continue;
            }
            if (byLengths && Measure.greatestLikeness(key.text, entry.key.text) < greatest) {
                continue;
            }
            int likeness = measure.likenessOf(key.text, entry.key.text);
            boolean here = entry.key.context == key.context;
            if (likeness > greatest
                    || likeness == greatest && (best == NONE || here && !sameContext)) {
                best = number;
                greatest = likeness;
                sameContext = here;
            }
        }
        return best;
    }

    // Stands in arrays, where a String itself may not: a slot without one is null.
    private static final class Text {
        final String letters;

        Text(String letters) {
            this.letters = letters;
        }

        static boolean same(Text one, Text another) {
            if (one == null || another == null) {
                return one == null && another == null;
            }
            return one.letters.equals(another.letters);
        }
    }

    private static final class Key {
        final String text;
        final int context;
        final boolean plural;

        Key(String text, int context, boolean plural) {
            this.text = text;
            this.context = context;
            this.plural = plural;
        }

        boolean sameAs(Key key) {
            return context == key.context && plural == key.plural && text.equals(key.text);
        }
    }

    private static final class Template {
        private final Key[] keys;
        private int used;

        Template() {
            keys = new Key[MOST_MESSAGES];
            used = 0;
        }

        int size() {
            return used;
        }

        void empty() {
            used = 0;
        }

        void append(Key key) {
            if (used >= 0 && used < keys.length) {
                keys[used] = key;
                used++;
            }
        }

        Key key(int number) {
            return number >= 0 && number < used && number < keys.length ? keys[number] : null;
        }

        boolean has(Key wanted) {
            for (int number = 0; number < used; number++) {
                Key key = key(number);
                if (key != null && key.sameAs(wanted)) {
                    return true;
                }
            }
            return false;
        }
    }

    // Never changes: what would change it makes another one.
    private static final class Entry {
        final Key key;
        final Text[] translations;
        final boolean marked;

        Entry(Key key, Text[] translations, boolean marked) {
            this.key = key;
            this.translations = translations;
            this.marked = marked;
        }

        int slotCount() {
            return translations.length;
        }

        Text translation(int slot) {
            return slot >= 0 && slot < translations.length ? translations[slot] : null;
        }

        int openSlots() {
            int open = 0;
            for (Text translation : translations) {
                if (translation == null) {
                    open++;
                }
            }
            return open;
        }

        boolean isFull() {
            return openSlots() == 0;
        }

        boolean hasTranslation() {
            return openSlots() < translations.length;
        }

        Text[] copiedTranslations() {
            Text[] copy = new Text[translations.length];
            for (int slot = 0; slot < copy.length; slot++) {
                copy[slot] = translation(slot);
            }
            return copy;
        }

        Entry translated(int slot, Text text) {
            Text[] changed = copiedTranslations();
            if (slot >= 0 && slot < changed.length) {
                changed[slot] = text;
            }
            return new Entry(key, changed, false);
        }

        Entry withMark(boolean mark) {
            return new Entry(key, translations, mark);
        }
    }

    // Is appended to while it is built, and not changed from then on.
    private static final class Catalogue {
        private final Entry[] rows;
        private final int activeRows;
        private int used;

        Catalogue(int room, int activeRows) {
            rows = new Entry[Math.max(0, room)];
            this.activeRows = activeRows;
            used = 0;
        }

        int size() {
            return used;
        }

        int activeSize() {
            return activeRows;
        }

        void append(Entry entry) {
            if (used >= 0 && used < rows.length) {
                rows[used] = entry;
                used++;
            }
        }

        Entry row(int number) {
            return number >= 0 && number < used && number < rows.length ? rows[number] : null;
        }

        int numberOf(Key key) {
            for (int number = 0; number < used; number++) {
                Entry entry = row(number);
                if (entry != null && entry.key.sameAs(key)) {
                    return number;
                }
            }
            return NONE;
        }

        Entry entryWith(Key key) {
            return row(numberOf(key));
        }

        Catalogue replaced(int replacedNumber, Entry replacement) {
            Catalogue copy = new Catalogue(used, activeRows);
            for (int number = 0; number < used; number++) {
                copy.append(number == replacedNumber ? replacement : row(number));
            }
            return copy;
        }
    }

    // Holds the row that every distance is reckoned in, so that no guess makes one.
    private static final class Measure {
        private final int[] distances;

        Measure() {
            distances = new int[LONGEST_TEXT + 1];
        }

        static int greatestLikeness(String one, String another) {
            int longer = Math.max(one.length(), another.length());
            int shorter = Math.min(one.length(), another.length());
            return longer <= 0 ? FULL_LIKENESS : FULL_LIKENESS * shorter / longer;
        }

        int likenessOf(String one, String another) {
            int longer = Math.max(one.length(), another.length());
            if (longer <= 0) {
                return FULL_LIKENESS;
            }
            return FULL_LIKENESS * (longer - distance(one, another)) / longer;
        }

        private int distance(String one, String another) {
            for (int column = 0; column < distances.length; column++) {
                distances[column] = column;
            }
            for (int row = 0; row < one.length(); row++) {
                countRow(row, one.charAt(row), another);
            }
            int last = another.length();
            return last < distances.length ? distances[last] : 0;
        }

        private void countRow(int row, char letter, String another) {
            int diagonal = row;
            int left = row + 1;
            if (distances.length > 0) {
                distances[0] = left;
            }
            for (int column = 1; column < distances.length && column <= another.length(); column++) {
                int above = distances[column];
                int exchanged = another.charAt(column - 1) == letter ? diagonal : diagonal + 1;
                left = Math.min(exchanged, Math.min(above, left) + 1);
                distances[column] = left;
                diagonal = above;
            }
        }
    }

    private static final class Digits {
        // 20 digits at most stand in a text: 8 bits hold how often one stands there.
        private static final int COUNT_BITS = 8;
        // The digits are 1 to 3, never 0: so 2 bits a digit tell all their rows apart.
        private static final int DIGIT_BITS = 2;

        static int faultBetween(String text, String translation) {
            if (howOften(text) != howOften(translation)) {
                return 2;
            }
            return inOrder(text) == inOrder(translation) ? 0 : 1;
        }

        private static boolean isDigit(char letter) {
            return letter >= '1' && letter <= '3';
        }

        private static long howOften(String text) {
            long counts = 0;
            for (int place = 0; place < text.length(); place++) {
                char letter = text.charAt(place);
                if (isDigit(letter)) {
                    counts += 1L << COUNT_BITS * (letter - '1');
                }
            }
            return counts;
        }

        private static long inOrder(String text) {
            long digits = 0;
            for (int place = 0; place < text.length(); place++) {
                char letter = text.charAt(place);
                if (isDigit(letter)) {
                    digits = (digits << DIGIT_BITS) + (letter - '0');
                }
            }
            return digits;
        }
    }

    // One merging of two catalogues against their elder, and the clashes it has met.
    private static final class ThreeWay {
        private final Catalogue mine;
        private final Catalogue theirs;
        private final Catalogue common;
        int clashes;

        ThreeWay(Catalogue mine, Catalogue theirs, Catalogue common) {
            this.mine = mine;
            this.theirs = theirs;
            this.common = common;
            clashes = 0;
        }

        Catalogue combined() {
            Catalogue result = new Catalogue(mine.size() + theirs.size(), mine.activeSize());
            for (int number = 0; number < mine.size(); number++) {
                Entry here = mine.row(number);
                if (here != null) {
                    result.append(combinedEntry(here));
                }
            }
            appendForeign(result);
            return result;
        }

        private void appendForeign(Catalogue result) {
            for (int number = 0; number < theirs.size(); number++) {
                Entry there = theirs.row(number);
                if (there != null && there.hasTranslation() && mine.entryWith(there.key) == null) {
                    result.append(there);
                }
            }
        }

        private Entry combinedEntry(Entry here) {
            Entry there = theirs.entryWith(here.key);
            if (there == null) {
                return here;
            }
            Entry before = common.entryWith(here.key);
            Text[] chosen = here.copiedTranslations();
            boolean marked = here.marked;
            for (int slot = 0; slot < chosen.length; slot++) {
                Text a = here.translation(slot);
                Text b = there.translation(slot);
                Text c = before == null ? null : before.translation(slot);
                if (Text.same(b, a) || Text.same(b, c)) {
                    continue;
                }
                if (Text.same(a, c)) {
                    chosen[slot] = b;
                    marked = marked || there.marked;
                } else {
                    clashes++;
                    marked = true;
                }
            }
            return new Entry(here.key, chosen, marked);
        }
    }
}
