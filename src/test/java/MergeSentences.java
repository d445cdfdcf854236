import java.util.function.Supplier;

/** The sentences of the promises 9 to 12: merging the template, and what there is then. */
final class MergeSentences extends Checks {
    private MergeSentences() {
    }

    /** 28 entries that are obsolete and done, and 12 that are active and open. */
    static Catalogmend full() {
        Catalogmend c = beforeTwelve(28);
        c.merge();
        return c;
    }

    /** So many entries that are done, and a template of 12 other messages. */
    private static Catalogmend beforeTwelve(int entries) {
        Catalogmend c = large(entries);
        c.clearTemplate();
        for (String text : new String[] {"xx", "yy", "zz"}) {
            put(c, text);
            addKeys(c, 4);
        }
        return c;
    }

    // ---- merge

    @Holds(at = "Promise 9", words = "Merges the template into the catalogue.")
    static void promise9OverChangesOfTheTemplate() {
        Catalogmend c = new Catalogmend();
        due("nothing into nothing", c.merge(), 0);
        mergeAnew(c, "aaaa", "bbbb", "cccc");
        due("new ones", Look.entries(c), "aaaa = ; bbbb = ; cccc = ; *");
        translate(c, 0, 0, "x");
        translate(c, 2, 0, "z");
        due("the same", c.merge(), 0);
        due("nothing changes", Look.entries(c), "aaaa = x; bbbb = ; cccc = z; *");
        mergeAnew(c, "dddd");
        due("others", Look.entries(c), "dddd = ; * aaaa = x; cccc = z; ");
        mergeAnew(c, "cccc", "bbbb", "dddd");
        due("one comes back", Look.entries(c), "cccc = z; bbbb = ; dddd = ; * aaaa = x; ");
        translate(c, 1, 0, "y");
        mergeAnew(c, "eeee");
        due("their order stays", Look.entries(c), "eeee = ; * cccc = z; bbbb = y; aaaa = x; ");
        mergeAnew(c);
        due("nothing into it", Look.entries(c), "* cccc = z; bbbb = y; aaaa = x; ");
        mergeAnew(c, "aaaa", "cccc");
        due("the template's order", Look.entries(c), "aaaa = x; cccc = z; * bbbb = y; ");
    }

    @Holds(at = "Promise 9", words = "Merges the template into the catalogue.")
    static void promise9TheTemplateAndTheBufferStay() {
        Catalogmend c = rich();
        c.merge();
        due("messages", c.messages(), 3);
        due("buffer", c.clearText(), 2);
        due("bound", c.setBound(1), 70);
        due("what is kept", c.restore(0) + " " + c.restore(1), "1 2");
    }

    @Holds(at = "Promise 9", words = "Returns how many entries are new and marked as a guess.")
    static void promise9NoneSomeAndAllAreGuesses() {
        Catalogmend c = new Catalogmend();
        due("new ones without a guess", mergeAnew(c, "open 1", "close 1"), 0);
        translate(c, 0, 0, "auf 1");
        due("two of three", mergeAnew(c, "opens 1", "opened 1", "moved 1 2 3"), 2);
        due("those", Look.entries(c), "opens 1 ? auf 1; opened 1 ? auf 1; moved 1 2 3 = ; * open 1 = auf 1; ");
        due("marked, but not new", c.merge(), 0);
        due("brought back with its mark", mergeAnew(c, "opened 1", "open 1"), 0);
        due("marked still", c.isMarked(0), true);
    }

    @Holds(at = "Promise 9", words = "Returns how many entries are new and marked as a guess.")
    static void promise9TwelveGuesses() {
        Catalogmend c = GuessSentences.done("abcdef");
        c.clearTemplate();
        for (int message = 0; message < 12; message++) {
            add(c, "abcde" + (char) ('g' + message), 0, false);
        }
        due("twelve", c.merge(), 12);
        due("guesses", c.count(Catalogmend.GUESSED), 12);
        due("none of them is new then", c.merge(), 0);
    }

    @Holds(at = "Promise 9", words = "Throws `IllegalStateException` if the catalogue would have more than 40 entries")
    static void promise9FortyAndFortyOne() {
        Catalogmend c = beforeTwelve(28);
        due("28 and 12", c.merge(), 0);
        due("40 entries", c.entries(), 40);
        due("12 active", c.active(), 12);
        refused("29 and 12", () -> beforeTwelve(29), STATE, Catalogmend::merge);
        Catalogmend refused = beforeTwelve(29);
        due("refused", thrownBy(refused::merge), STATE);
        due("the template stays", thrownBy(() -> refused.addMessage(3, false)), STATE);
        due("with all of it", refused.clearTemplate(), 12);
    }

    @Holds(at = "Promise 9", words = "Throws `IllegalStateException` if the catalogue would have more than 40 entries")
    static void promise9OneMoreThanForty() {
        Supplier<Catalogmend> more = () -> {
            Catalogmend c = large(40);
            c.clearTemplate();
            add(c, "zz", 0, false);
            return c;
        };
        refused("40 and 1", more, STATE, Catalogmend::merge);
        Catalogmend c = more.get();
        c.clearTemplate();
        due("40 and none", c.merge(), 0);
        due("40 entries", c.entries(), 40);
        due("none active", c.active(), 0);
    }

    @Holds(at = "Promise 9", words = "Throws `IllegalStateException` if the catalogue would have more than 40 entries")
    static void promise9EntriesWithTheirKeysAreNotCountedTwice() {
        Catalogmend c = large(40);
        c.clearTemplate();
        put(c, "a");
        addKeys(c, 8);
        due("8 of 40", c.merge(), 0);
        due("40 entries", c.entries(), 40);
        due("8 active", c.active(), 8);
        due("the first text", Look.text(c, 0, 20), "a");
    }

    @Holds(at = "Promise 9", words = "Throws `IllegalStateException` if the catalogue would have more than 40 entries")
    static void promise9EntriesThatAreGoneAreNotCounted() {
        Catalogmend c = large(39);
        mergeAnew(c, "zz");
        due("39 and an open one", c.entries(), 40);
        mergeAnew(c, "zy");
        due("the open one makes room", c.entries(), 40);
        c.translate(0, 0);
        due("a translated one does not", thrownBy(() -> mergeAnew(c, "zx")), STATE);
        due("40 entries", c.entries(), 40);
        due("the active one stays", Look.text(c, 0, 20), "zy");
    }

    /** Guesses of a refused merge leave no mark and no entry. */
    @Holds(at = "Promise 9", words = "Throws `IllegalStateException` if the catalogue would have more than 40 entries")
    static void promise9ARefusedMergeWithGuesses() {
        Supplier<Catalogmend> more = () -> {
            Catalogmend c = large(40);
            c.setBound(1);
            c.clearTemplate();
            add(c, "ab", 0, false);
            add(c, "b", 0, false);
            return c;
        };
        refused("40 and a guess", more, STATE, Catalogmend::merge);
    }

    // ---- entries and active

    @Holds(at = "Promise 10", words = "Returns how many entries the catalogue has, obsolete ones too.")
    static void promise10FromNoneToForty() {
        due("none", new Catalogmend().entries(), 0);
        Catalogmend c = small();
        due("active and obsolete", c.entries(), 3);
        c.clearTemplate();
        due("without merging", c.entries(), 3);
        c.merge();
        due("only obsolete", c.entries(), 3);
        due("forty", full().entries(), 40);
        onlyAsks("entries", Checks::rich, Catalogmend::entries);
    }

    @Holds(at = "Promise 11", words = "Returns how many entries are active; they come first.")
    static void promise11FromNoneToTwelve() {
        due("none of none", new Catalogmend().active(), 0);
        Catalogmend c = small();
        due("two of three", c.active(), 2);
        c.clearTemplate();
        due("without merging", c.active(), 2);
        c.merge();
        due("none of three", c.active(), 0);
        due("twelve of forty", full().active(), 12);
        onlyAsks("active", Checks::rich, Catalogmend::active);
    }

    @Holds(at = "Promise 11", words = "they come first")
    static void promise11TheLastActiveAndTheFirstObsoleteOne() {
        Catalogmend c = full();
        c.type('z');
        due("translate the last active one", c.translate(11, 0), 0);
        due("translate the first obsolete one", thrownBy(() -> c.translate(12, 0)), STATE);
        due("the last active one", Look.text(c, 11, 20), "zz");
    }

    // ---- find

    @Holds(at = "Promise 12", words = "Returns the entry whose text is in the buffer.")
    static void promise12ByTheWholeKey() {
        Catalogmend c = small();
        put(c, "dogs");
        due("the key", c.find(3, true), 1);
        due("another context", c.find(2, true), Catalogmend.NONE);
        due("not plural", c.find(3, false), Catalogmend.NONE);
        put(c, "dog");
        due("a shorter text", c.find(3, true), Catalogmend.NONE);
        put(c, "dogs ");
        due("a longer text", c.find(3, true), Catalogmend.NONE);
    }

    @Holds(at = "Promise 12", words = "- `context`: 0 to 3")
    static void promise12Contexts() {
        Catalogmend c = new Catalogmend();
        put(c, "a");
        addKeys(c, 4);
        c.merge();
        for (int context = -1; context <= 4; context++) {
            int asked = context;
            String due = context < 0 || context > 3 ? ARGUMENT : String.valueOf(context);
            due("context " + context, answer(() -> c.find(asked, false)), due);
        }
    }

    @Holds(at = "Promise 12", words = "- `isPlural`: whether it is plural")
    static void promise12PluralOrNot() {
        Catalogmend c = new Catalogmend();
        put(c, "a");
        addKeys(c, 8);
        c.merge();
        due("not plural", c.find(2, false), 2);
        due("plural", c.find(2, true), 6);
    }

    @Holds(at = "Promise 12", words = "Returns its number; NONE if there is none.")
    static void promise12TheFirstAndTheLastNumber() {
        Catalogmend c = full();
        put(c, "xx");
        due("the first", c.find(0, false), 0);
        put(c, "a");
        due("the last", c.find(3, true), 39);
        put(c, "e");
        due("none", c.find(0, false), Catalogmend.NONE);
        Catalogmend none = new Catalogmend();
        none.type('a');
        due("none of none", none.find(0, false), Catalogmend.NONE);
    }

    @Holds(at = "Promise 12", words = "Returns its number; NONE if there is none.")
    static void promise12ObsoleteOnesAndMessages() {
        Catalogmend c = small();
        put(c, "old 1");
        due("an obsolete one", c.find(0, false), 2);
        onlyAsks("find", Checks::rich, x -> x.find(0, false));
        Catalogmend rich = rich();
        put(rich, "file 12");
        due("a message is no entry", rich.find(1, false), Catalogmend.NONE);
    }

    /** No entry has an empty text, and find() names no exception for an empty buffer. */
    @Holds(at = "Promise 12", words = "Returns its number; NONE if there is none.")
    static void promise12AnEmptyBuffer() {
        for (int context = 0; context < 4; context++) {
            due("not plural", emptied().find(context, false), Catalogmend.NONE);
            due("plural", emptied().find(context, true), Catalogmend.NONE);
        }
        onlyAsks("find", Checks::emptied, x -> x.find(0, false));
    }

    @Holds(at = "Promise 12", words = "Throws `IllegalArgumentException` if context is out of range")
    static void promise12ContextOutOfRange() {
        for (int context : new int[] {-1, 4, LEAST, MOST}) {
            refused("context " + context, Checks::small, ARGUMENT, c -> c.find(context, false));
            refused("context " + context + " of nothing", Checks::emptied, ARGUMENT, c -> c.find(context, true));
        }
    }
}
