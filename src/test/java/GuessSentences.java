import java.util.function.Consumer;

/** The sentences of the promises 23 to 25: likeness and guesses. */
final class GuessSentences extends Checks {
    private GuessSentences() {
    }

    /** Entries with these texts, the context 0 and the translations "a", "b" and so on; all active. */
    static Catalogmend done(String... texts) {
        Catalogmend c = new Catalogmend();
        mergeAnew(c, texts);
        for (int entry = 0; entry < texts.length; entry++) {
            translate(c, entry, 0, "" + (char) ('a' + entry));
        }
        return c;
    }

    /** Four entries that are as like to "abcw", with the contexts 0, 1, 1 and 2. */
    static Catalogmend doneInContexts() {
        Catalogmend c = new Catalogmend();
        add(c, "abcx", 0, false);
        add(c, "abcy", 1, false);
        add(c, "abcz", 1, false);
        add(c, "abcv", 2, false);
        c.merge();
        for (int entry = 0; entry < 4; entry++) {
            translate(c, entry, 0, "" + (char) ('a' + entry));
        }
        return c;
    }

    static void dueLikeness(String one, String another, int likeness) {
        Catalogmend c = new Catalogmend();
        mergeAnew(c, one, another);
        due("likeness of " + one + " and " + another, c.likeness(0, 1), likeness);
        due("likeness of " + another + " and " + one, c.likeness(1, 0), likeness);
    }

    /** By both calls. */
    static void dueGuess(Catalogmend c, String text, int context, boolean isPlural, int entry) {
        put(c, text);
        due("guess for " + text, c.guess(context, isPlural), entry);
        due("guessByAll for " + text, c.guessByAll(context, isPlural), entry);
    }

    // ---- likeness

    @Holds(at = "Promise 23", words = "Returns the likeness of the texts of two entries.")
    static void promise23OfAnyTwoEntries() {
        due("with an obsolete one", small().likeness(0, 2), 50);
        due("of an obsolete one", small().likeness(2, 0), 50);
        due("translations are in no way", small().likeness(0, 1), 0);
        due("of the same text", sameTexts().likeness(0, 1), 100);
        onlyAsks("likeness", Checks::rich, c -> c.likeness(1, 2));
    }

    private static Catalogmend sameTexts() {
        Catalogmend c = new Catalogmend();
        add(c, "abc", 0, false);
        c.addMessage(3, true);
        c.merge();
        return c;
    }

    @Holds(at = "Promise 23", words = "- `entry`: the number of an entry")
    static void promise23TheEndsOfTheEntries() {
        entryEnds((c, entry) -> c.likeness(entry, 0));
    }

    @Holds(at = "Promise 23", words = "- `other`: the number of an entry")
    static void promise23TheEndsOfTheOthers() {
        entryEnds((c, entry) -> c.likeness(0, entry));
    }

    @Holds(at = "Promise 23", words = "Returns 0 to 100.")
    static void promise23From0To100() {
        dueLikeness("a", "b", 0);
        dueLikeness("abcdefghij klmnop 12", "qrstuvwxyzqrstuvwxy3", 0);
        dueLikeness("abcdefghij klmnop 12", "qrstuvwxyzqrstuvwxy2", 5);
        dueLikeness("abcdefghij klmnop 12", "abcdefghij klmnop 13", 95);
        Catalogmend c = new Catalogmend();
        mergeAnew(c, "a", TWENTY);
        due("the shortest and itself", c.likeness(0, 0), 100);
        due("the longest and itself", c.likeness(1, 1), 100);
    }

    @Holds(at = "Promise 23", words = "Throws `IndexOutOfBoundsException` if there is no such entry or other")
    static void promise23NoSuchEntry() {
        noSuchEntry((c, entry) -> c.likeness(entry, 0));
    }

    @Holds(at = "Promise 23", words = "Throws `IndexOutOfBoundsException` if there is no such entry or other")
    static void promise23NoSuchOther() {
        noSuchEntry((c, entry) -> c.likeness(0, entry));
        noSuchEntry((c, entry) -> c.likeness(entry, entry));
    }

    // ---- guess

    @Holds(at = "Promise 24", words = "Returns the guess for a message with the text in the buffer")
    static void promise24ActiveAndObsoleteOnes() {
        Catalogmend c = small();
        put(c, "file 2");
        due("active", c.guess(2, false), 0);
        put(c, "old 2");
        due("obsolete", c.guess(3, false), 2);
        put(c, "dogs");
        due("not full", c.guess(3, true), Catalogmend.NONE);
        onlyAsks("guess", Checks::rich, x -> x.guess(0, false));
    }

    @Holds(at = "Promise 24", words = "leaving out entries whose lengths tell that they are not like enough")
    static void promise24LengthsAtTheBoundAndBelowIt() {
        Catalogmend c = done("abcdefghij");
        put(c, "abcde");
        due("5 of 10", c.guess(0, false), Catalogmend.NONE);
        put(c, "abcdef");
        due("6 of 10", c.guess(0, false), 0);
        put(c, "abcdefghijklmnop");
        due("10 of 16", c.guess(0, false), 0);
        put(c, "abcdefghijklmnopq");
        due("10 of 17", c.guess(0, false), Catalogmend.NONE);
    }

    /** A length that tells only that an entry is as like as the best one so far leaves nothing out. */
    @Holds(at = "Promise 24", words = "leaving out entries whose lengths tell that they are not like enough")
    static void promise24LengthsAtTheBestSoFar() {
        Catalogmend c = new Catalogmend();
        add(c, "abcdx", 0, false);
        add(c, "abcd", 1, false);
        c.merge();
        c.translate(0, 0);
        c.translate(1, 0);
        put(c, "abcde");
        due("the context", c.guess(1, false), 1);
        due("the lowest number", c.guess(2, false), 0);
    }

    @Holds(at = "Promise 24", words = "- `context`: 0 to 3")
    static void promise24Contexts() {
        contexts(Catalogmend::guess);
    }

    @Holds(at = "Promise 24", words = "- `isPlural`: whether it is plural")
    static void promise24PluralOrNot() {
        pluralOrNot(Catalogmend::guess);
    }

    @Holds(at = "Promise 24", words = "Returns the number of the entry; NONE if there is none.")
    static void promise24TheFirstAndTheLastNumber() {
        firstAndLast(Catalogmend::guess);
    }

    @Holds(at = "Promise 24", words = "Throws `IllegalArgumentException` if context is out of range")
    static void promise24ContextOutOfRange() {
        contextOutOfRange(Catalogmend::guess);
    }

    @Holds(at = "Promise 24", words = "Throws `IllegalStateException` if the buffer is empty")
    static void promise24TheBufferIsEmpty() {
        bufferIsEmpty(Catalogmend::guess);
    }

    // ---- guessByAll

    @Holds(at = "Promise 25", words = "Returns the same, found from the likeness with all entries.")
    static void promise25TheSameForAllLengths() {
        for (int bound = 10; bound <= 100; bound += 30) {
            Catalogmend c = done("abcd", "abcdefgh", "abcdefghijkl", "abcdefghijklmnopqrst");
            c.setBound(bound);
            for (int length = 1; length <= 20; length++) {
                put(c, "abcdefghijklmnopqrst".substring(0, length));
                due("length " + length + ", bound " + bound, c.guessByAll(0, false), c.guess(0, false));
            }
        }
    }

    @Holds(at = "Promise 25", words = "Returns the same, found from the likeness with all entries.")
    static void promise25ActiveAndObsoleteOnes() {
        Catalogmend c = small();
        put(c, "file 2");
        due("active", c.guessByAll(2, false), 0);
        put(c, "old 2");
        due("obsolete", c.guessByAll(3, false), 2);
        put(c, "dogs");
        due("not full", c.guessByAll(3, true), Catalogmend.NONE);
        onlyAsks("guessByAll", Checks::rich, x -> x.guessByAll(0, false));
    }

    /** 17 letters of 18 and 16 of 17 are both 94, when rounded down. */
    @Holds(at = "Promise 25", words = "Returns the same, found from the likeness with all entries.")
    static void promise25LikenessesThatAreTheSameRoundedDown() {
        String text = "abcdefghijklmnopq";
        Catalogmend c = new Catalogmend();
        add(c, text.substring(0, 16) + "z", 1, false);
        add(c, text + "z", 2, false);
        c.merge();
        c.translate(0, 0);
        c.translate(1, 0);
        due("likeness is 100 * 16 / 18", c.likeness(0, 1), 94);
        dueGuess(c, text, 2, false, 1);
        dueGuess(c, text, 1, false, 0);
        dueGuess(c, text, 3, false, 0);
    }

    @Holds(at = "Promise 25", words = "- `context`: 0 to 3")
    static void promise25Contexts() {
        contexts(Catalogmend::guessByAll);
    }

    @Holds(at = "Promise 25", words = "- `isPlural`: whether it is plural")
    static void promise25PluralOrNot() {
        pluralOrNot(Catalogmend::guessByAll);
    }

    @Holds(at = "Promise 25", words = "Returns the number of the entry; NONE if there is none.")
    static void promise25TheFirstAndTheLastNumber() {
        firstAndLast(Catalogmend::guessByAll);
    }

    @Holds(at = "Promise 25", words = "Throws `IllegalArgumentException` if context is out of range")
    static void promise25ContextOutOfRange() {
        contextOutOfRange(Catalogmend::guessByAll);
    }

    @Holds(at = "Promise 25", words = "Throws `IllegalStateException` if the buffer is empty")
    static void promise25TheBufferIsEmpty() {
        bufferIsEmpty(Catalogmend::guessByAll);
    }

    // ---- what both calls promise

    private interface GuessCall {
        int on(Catalogmend c, int context, boolean isPlural);
    }

    private static void contexts(GuessCall guess) {
        Catalogmend c = new Catalogmend();
        put(c, "a");
        addKeys(c, 4);
        c.merge();
        for (int entry = 0; entry < 4; entry++) {
            c.translate(entry, 0);
        }
        for (int context = -1; context <= 4; context++) {
            int asked = context;
            String due = context < 0 || context > 3 ? ARGUMENT : String.valueOf(context);
            due("context " + context, answer(() -> guess.on(c, asked, false)), due);
        }
    }

    private static void pluralOrNot(GuessCall guess) {
        Catalogmend c = large(8);
        for (int context = 0; context < 4; context++) {
            due("not plural", guess.on(c, context, false), context);
            due("plural", guess.on(c, context, true), context + 4);
        }
    }

    private static void firstAndLast(GuessCall guess) {
        Catalogmend c = large(40);
        due("the first", guess.on(c, 0, false), 0);
        put(c, "a");
        due("the last", guess.on(c, 3, true), 39);
        put(c, "z");
        due("none", guess.on(c, 0, false), Catalogmend.NONE);
        Catalogmend none = new Catalogmend();
        none.type('a');
        due("none of none", guess.on(none, 0, false), Catalogmend.NONE);
    }

    private static void contextOutOfRange(GuessCall guess) {
        for (int context : new int[] {-1, 4, LEAST, MOST}) {
            refused("context " + context, Checks::small, ARGUMENT, c -> guess.on(c, context, false));
            refused("context " + context + " of nothing", Checks::emptied, ARGUMENT,
                    c -> guess.on(c, context, true));
        }
    }

    private static void bufferIsEmpty(GuessCall guess) {
        Consumer<Catalogmend> call = c -> guess.on(c, 3, false);
        refused("no character", Checks::emptied, STATE, call);
        refused("no character, no entry", Catalogmend::new, STATE, call);
        Catalogmend one = emptied();
        one.type('a');
        due("one character", guess.on(one, 3, false), Catalogmend.NONE);
    }
}
