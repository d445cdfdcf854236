import java.util.LinkedHashMap;
import java.util.Map;
import java.util.function.Consumer;

/** The sentences of the terms, and of what the program is. */
final class TermsSentences extends Checks {
    private static final String ALPHABET = " 123abcdefghijklmnopqrstuvwxyz";

    private TermsSentences() {
    }

    // ---- 512 calls

    @Holds(at = "What it is", words = "An object is used for at most 512 calls after it has been made")
    static void whatitisThe512thCallIsAnswered() {
        Catalogmend c = new Catalogmend();
        for (int call = 1; call <= 512; call++) {
            due("call " + call, call % 2 == 1 ? c.type('a') : c.clearText(), 1);
        }
    }

    @Holds(at = "What it is", words = "An object is used for at most 512 calls after it has been made")
    static void whatitisRefusedCallsAreCallsToo() {
        Catalogmend c = new Catalogmend();
        for (int call = 1; call <= 511; call++) {
            due("call " + call, thrownBy(c::mergeKept), STATE);
        }
        due("call 512", c.type('a'), 1);
    }

    /** Each call makes a catalogue of 40 entries anew. */
    @Holds(at = "What it is", words = "An object is used for at most 512 calls after it has been made")
    static void whatitisTheDearestCallsAreAnsweredToTheLast() {
        Catalogmend c = MergeSentences.full();
        c.keep(0);
        c.keep(1);
        for (int call = 0; call < 180; call++) {
            due("mergeKept", c.mergeKept(), 0);
            due("merge", c.merge(), 0);
        }
        due("entries", c.entries(), 40);
        due("active", c.active(), 12);
    }

    // ---- calls that throw

    /** Every call that throws, with arguments that are too small and too large. */
    private static Map<String, Consumer<Catalogmend>> callsWithWrongArguments(String exception) {
        Map<String, Consumer<Catalogmend>> calls = new LinkedHashMap<>();
        for (int outer : new int[] {-1, 4, LEAST, MOST}) {
            if (exception.equals(ARGUMENT)) {
                calls.put("addMessage " + outer, c -> c.addMessage(outer, false));
                calls.put("find " + outer, c -> c.find(outer, false));
                calls.put("guess " + outer, c -> c.guess(outer, true));
                calls.put("guessByAll " + outer, c -> c.guessByAll(outer, false));
                calls.put("count " + outer, c -> c.count(outer));
                calls.put("type " + outer, c -> c.type((char) outer));
                calls.put("setForms " + outer, c -> c.setForms(outer == 4 ? 5 : outer));
                calls.put("setBound " + outer, c -> c.setBound(outer == 4 ? 101 : outer));
                continue;
            }
            calls.put("translate entry " + outer, c -> c.translate(outer, 0));
            calls.put("translate slot " + outer, c -> c.translate(0, outer));
            calls.put("confirm " + outer, c -> c.confirm(outer));
            calls.put("state " + outer, c -> c.state(outer));
            calls.put("isMarked " + outer, c -> c.isMarked(outer));
            calls.put("slots " + outer, c -> c.slots(outer));
            calls.put("textAt entry " + outer, c -> c.textAt(outer, 0));
            calls.put("translationAt entry " + outer, c -> c.translationAt(outer, 0, 0));
            calls.put("translationAt slot " + outer, c -> c.translationAt(0, outer, 0));
            calls.put("lengthOf entry " + outer, c -> c.lengthOf(outer, 0));
            calls.put("lengthOf slot " + outer, c -> c.lengthOf(0, outer));
            calls.put("fault " + outer, c -> c.fault(outer));
            calls.put("likeness " + outer, c -> c.likeness(outer, 0));
            calls.put("likeness other " + outer, c -> c.likeness(0, outer));
            calls.put("keep " + outer, c -> c.keep(outer));
            calls.put("restore " + outer, c -> c.restore(outer));
        }
        return calls;
    }

    @Holds(at = "Terms", words = "A call that throws an exception changes nothing")
    static void termsNoWrongArgumentChangesAnything() {
        callsWithWrongArguments(ARGUMENT).forEach((what, call) -> refused(what, Checks::rich, ARGUMENT, call));
        refused("textAt place -1", Checks::rich, INDEX, c -> c.textAt(0, -1));
        refused("translationAt place -1", Checks::rich, INDEX, c -> c.translationAt(0, 1, -1));
    }

    @Holds(at = "Terms", words = "A call that throws an exception changes nothing")
    static void termsNoWrongNumberChangesAnything() {
        callsWithWrongArguments(INDEX).forEach((what, call) -> refused(what, Checks::rich, INDEX, call));
    }

    @Holds(at = "Terms", words = "A call that throws an exception changes nothing")
    static void termsNothingRefusedForItsStateChangesAnything() {
        refused("setForms", Checks::rich, STATE, c -> c.setForms(1));
        refused("translate an obsolete one", Checks::rich, STATE, c -> c.translate(2, 0));
        refused("confirm an unmarked one", Checks::rich, STATE, c -> c.confirm(3));
        refused("addMessage again", TermsSentences::richWithDogs, STATE, c -> c.addMessage(3, true));
        refused("type behind 20", TermsSentences::richWithTwenty, STATE, c -> c.type('a'));
        refused("addMessage of nothing", TermsSentences::richWithNothing, STATE, c -> c.addMessage(0, false));
        refused("translate by nothing", TermsSentences::richWithNothing, STATE, c -> c.translate(0, 0));
        refused("guess of nothing", TermsSentences::richWithNothing, STATE, c -> c.guess(0, false));
        refused("guessByAll of nothing", TermsSentences::richWithNothing, STATE, c -> c.guessByAll(0, false));
        refused("restore of nothing", Checks::small, STATE, c -> c.restore(0));
        refused("mergeKept of nothing", Checks::small, STATE, Catalogmend::mergeKept);
    }

    private static Catalogmend richWithDogs() {
        Catalogmend c = rich();
        put(c, "dogs");
        return c;
    }

    private static Catalogmend richWithTwenty() {
        Catalogmend c = rich();
        put(c, TWENTY);
        return c;
    }

    private static Catalogmend richWithNothing() {
        Catalogmend c = rich();
        c.clearText();
        return c;
    }

    @Holds(at = "Terms",
            words = "if several exceptions apply, the one that its throws clause names first is thrown")
    static void termsAWrongArgumentGoesAheadOfTheState() {
        refused("type of A behind 20", TermsSentences::richWithTwenty, ARGUMENT, c -> c.type('A'));
        refused("addMessage of nothing", TermsSentences::richWithNothing, ARGUMENT, c -> c.addMessage(4, false));
        refused("addMessage again", TermsSentences::richWithDogs, ARGUMENT, c -> c.addMessage(-1, true));
        refused("a 13th message", () -> TemplateSentences.twelve("q"), ARGUMENT, c -> c.addMessage(4, false));
        refused("setForms 0 with entries", Checks::small, ARGUMENT, c -> c.setForms(0));
        refused("setForms 5 with something kept", Checks::rich, ARGUMENT, c -> c.setForms(5));
        refused("guess of nothing", TermsSentences::richWithNothing, ARGUMENT, c -> c.guess(4, false));
        refused("guessByAll of nothing", TermsSentences::richWithNothing, ARGUMENT, c -> c.guessByAll(-1, true));
    }

    @Holds(at = "Terms",
            words = "if several exceptions apply, the one that its throws clause names first is thrown")
    static void termsAWrongNumberGoesAheadOfTheState() {
        refused("no entry, no text", TermsSentences::richWithNothing, INDEX, c -> c.translate(4, 0));
        refused("no slot, no text", TermsSentences::richWithNothing, INDEX, c -> c.translate(0, 3));
        refused("no slot of an obsolete one", Checks::rich, INDEX, c -> c.translate(2, 1));
        refused("no slot of an obsolete one, no text", TermsSentences::richWithNothing, INDEX,
                c -> c.translate(3, -1));
        refused("confirm without any mark", Checks::small, INDEX, c -> c.confirm(3));
        refused("restore -1 with nothing kept", Checks::small, INDEX, c -> c.restore(-1));
        refused("restore 2 with nothing kept", Checks::small, INDEX, c -> c.restore(2));
    }

    // ---- texts, messages and the template

    @Holds(at = "Terms", words = "Texts have up to 20 characters")
    static void termsTwentyCharactersAndNoMore() {
        Catalogmend c = new Catalogmend();
        for (int length = 1; length <= 20; length++) {
            due("character " + length, c.type('a'), length);
        }
        due("character 21", thrownBy(() -> c.type('a')), STATE);
        due("length of the text", c.clearText(), 20);
    }

    @Holds(at = "Terms", words = "Texts have up to 20 characters")
    static void termsAMessageAndATranslationOfTwenty() {
        Catalogmend c = new Catalogmend();
        mergeAnew(c, TWENTY);
        due("translate", translate(c, 0, 0, "21 pmonlk jihgfedcba"), 0);
        due("both", Look.entries(c), TWENTY + " = 21 pmonlk jihgfedcba; *");
    }

    @Holds(at = "Terms", words = "letters a to z, spaces, and the digits 1 to 3")
    static void termsThirtyCharactersOfAll() {
        int taken = 0;
        for (int sign = 0; sign <= Character.MAX_VALUE; sign++) {
            char character = (char) sign;
            String answer = answer(() -> new Catalogmend().type(character));
            String due = ALPHABET.indexOf(character) >= 0 ? "1" : ARGUMENT;
            taken += answer.equals("1") ? 1 : 0;
            if (!answer.equals(due)) {
                due("type of the character " + sign, answer, due);
            }
        }
        due("characters that are taken", taken, 30);
    }

    @Holds(at = "Terms", words = "A message has a text that is not empty")
    static void termsAMessageOfOneCharacterAndOfNone() {
        due("one letter", add(new Catalogmend(), "a", 0, false), 1);
        due("one space", add(new Catalogmend(), " ", 0, false), 1);
        due("one digit", add(new Catalogmend(), "3", 0, false), 1);
        refused("no character", Checks::emptied, STATE, c -> c.addMessage(0, false));
    }

    @Holds(at = "Terms", words = "a context from 0 to 3")
    static void termsContexts() {
        for (int context = -1; context <= 4; context++) {
            int told = context;
            String due = context < 0 || context > 3 ? ARGUMENT : "1";
            due("context " + context, answer(() -> add(new Catalogmend(), "a", told, true)), due);
        }
    }

    @Holds(at = "Terms", words = "its key are the text, the context and whether it is plural")
    static void termsKeysDifferByAnyOfThree() {
        Catalogmend c = new Catalogmend();
        due("first", add(c, "ab", 1, false), 1);
        due("plural", c.addMessage(1, true), 2);
        due("another context", c.addMessage(2, false), 3);
        due("the same", thrownBy(() -> c.addMessage(1, false)), STATE);
        due("a longer text", add(c, "ab ", 1, false), 4);
        due("a shorter text", add(c, "a", 1, false), 5);
        due("another text", add(c, "ac", 1, false), 6);
        c.merge();
        due("as many entries", c.entries(), 6);
    }

    @Holds(at = "Terms", words = "The template has up to 12 messages")
    static void termsTwelveMessages() {
        Catalogmend c = TemplateSentences.twelve("q");
        due("the 13th", thrownBy(() -> c.addMessage(3, true)), STATE);
        due("messages", c.messages(), 12);
        due("merge", c.merge(), 0);
        due("entries", c.entries(), 12);
    }

    @Holds(at = "Terms", words = "with unlike keys, in their order")
    static void termsMessagesInTheirOrder() {
        Catalogmend c = new Catalogmend();
        add(c, "b", 0, false);
        add(c, "c", 0, false);
        add(c, "a", 0, false);
        due("b again", thrownBy(() -> add(c, "b", 0, false)), STATE);
        c.merge();
        due("in their order", Look.entries(c), "b = ; c = ; a = ; *");
    }

    // ---- entries

    @Holds(at = "Terms", words = "The catalogue has entries, numbered from 0")
    static void termsEntriesAreNumberedFrom0() {
        Catalogmend c = MergeSentences.full();
        due("no entry -1", thrownBy(() -> c.slots(-1)), INDEX);
        due("entry 0", thrownBy(() -> c.slots(0)), NOTHING);
        due("entry 39", thrownBy(() -> c.slots(39)), NOTHING);
        due("no entry 40", thrownBy(() -> c.slots(40)), INDEX);
    }

    @Holds(at = "Terms", words = "there is one entry for a key at most")
    static void termsOneEntryForAKey() {
        Catalogmend c = small();
        c.merge();
        c.merge();
        due("merged again", c.entries(), 3);
        mergeAnew(c, "old 1");
        due("brought back", Look.entries(c), "old 1 = alt 1; * file 1 = datei 1; dogs = |hunde; ");
        c.keep(0);
        c.keep(1);
        c.mergeKept();
        due("merged with itself", c.entries(), 3);
        c.clearTemplate();
        c.merge();
        c.mergeKept();
        due("merged with its like", c.entries(), 3);
    }

    @Holds(at = "Terms",
            words = "slots: 1, or, if it is plural, as many as the language has plural forms, 2 at first")
    static void termsSlotsAtFirst() {
        Catalogmend c = new Catalogmend();
        add(c, "a", 0, true);
        c.addMessage(0, false);
        c.merge();
        due("slots of a plural one", c.slots(0), 2);
        due("slots of another", c.slots(1), 1);
    }

    @Holds(at = "Terms", words = "as many as the language has plural forms")
    static void termsSlotsForOneToFourForms() {
        for (int forms = 1; forms <= 4; forms++) {
            Catalogmend c = new Catalogmend();
            c.setForms(forms);
            add(c, "a", 0, true);
            c.addMessage(0, false);
            c.merge();
            due("slots of a plural one", c.slots(0), forms);
            due("slots of another", c.slots(1), 1);
            int last = forms - 1;
            due("the last slot", translate(c, 0, last, "z"), forms - 1);
            due("no slot behind it", thrownBy(() -> c.translate(0, last + 1)), INDEX);
            due("no second slot", thrownBy(() -> c.translate(1, 1)), INDEX);
        }
    }

    @Holds(at = "Terms", words = "a slot has a translation, which is a text that is not empty, or none")
    static void termsNoTranslationIsEmpty() {
        Catalogmend c = new Catalogmend();
        mergeAnew(c, "a");
        due("none at first", c.lengthOf(0, 0), 0);
        c.clearText();
        due("an empty one", thrownBy(() -> c.translate(0, 0)), STATE);
        due("none still", c.state(0), Catalogmend.OPEN);
        due("a space is one", translate(c, 0, 0, " "), 0);
        due("its length", c.lengthOf(0, 0), 1);
        due("done", c.state(0), Catalogmend.DONE);
    }

    @Holds(at = "Terms", words = "An entry is active or obsolete, and it may be marked as a guess.")
    static void termsActiveAndObsoleteOnesAreMarked() {
        Catalogmend c = guessed();
        due("both marked", Look.entries(c), "abcdf ? x; * abcde ? x; abcd = x; ");
        mergeAnew(c, "abcd");
        due("both obsolete", Look.entries(c), "abcd = x; * abcdf ? x; abcde ? x; ");
    }

    @Holds(at = "Terms", words = "It is full if all its slots have a translation.")
    static void termsFullWithTheLastOfItsSlots() {
        for (int forms = 1; forms <= 4; forms++) {
            Catalogmend c = new Catalogmend();
            c.setForms(forms);
            add(c, "a", 0, true);
            c.merge();
            for (int slot = forms - 1; slot >= 0; slot--) {
                due("not full yet", c.state(0), Catalogmend.OPEN);
                due("no guess from it", c.guess(0, true), Catalogmend.NONE);
                due("open slots", c.translate(0, slot), slot);
            }
            due("full", c.state(0), Catalogmend.DONE);
            due("a guess from it", c.guess(0, true), 0);
        }
    }

    // ---- likeness and guesses

    @Holds(at = "Terms", words = "The likeness of two texts is floor(100 * (m - d) / m)")
    static void termsLikenessIsRoundedDown() {
        GuessSentences.dueLikeness("abc", "abd", 66);
        GuessSentences.dueLikeness("abc", "axx", 33);
        GuessSentences.dueLikeness("abcdefg", "abcdefx", 85);
        GuessSentences.dueLikeness("kitten", "sitting", 57);
        GuessSentences.dueLikeness("abcdefghijklmnopqrs", "abcdefghijklmnopqrx", 94);
        GuessSentences.dueLikeness("abcdefghijklmnopqrs", "qqqqqqqqqqqqqqqqqqq", 5);
    }

    @Holds(at = "Terms", words = "m is the length of the longer one")
    static void termsTheLongerOneCounts() {
        GuessSentences.dueLikeness("a", "ab", 50);
        GuessSentences.dueLikeness("a", TWENTY, 5);
        GuessSentences.dueLikeness(TWENTY.substring(0, 19), TWENTY, 95);
    }

    @Holds(at = "Terms",
            words = "the least number of characters that have to be put in, taken out or exchanged")
    static void termsPutInTakenOutOrExchanged() {
        GuessSentences.dueLikeness("abcd", "abxcd", 80);
        GuessSentences.dueLikeness("abcd", "abxd", 75);
        GuessSentences.dueLikeness("abcd", "bcde", 50);
        GuessSentences.dueLikeness("abcd", "badc", 25);
        GuessSentences.dueLikeness("flaw", "lawn", 50);
        GuessSentences.dueLikeness("aaaa", "aaaab", 80);
        GuessSentences.dueLikeness(" a", "a", 50);
        GuessSentences.dueLikeness("ab", "ba", 0);
        GuessSentences.dueLikeness("abcdefghij klmnop 12", "bcdefghij klmnop 12a", 90);
        GuessSentences.dueLikeness("abcdefghij klmnop 12", "qrstuvwxyzqrstuvwxy3", 0);
    }

    @Holds(at = "Terms", words = "of the entries, active or obsolete, that are full")
    static void termsGuessesComeFromFullOnesOnly() {
        Catalogmend c = new Catalogmend();
        add(c, "abcd", 0, true);
        c.merge();
        GuessSentences.dueGuess(c, "abcd", 0, true, -1);
        translate(c, 0, 0, "x");
        GuessSentences.dueGuess(c, "abcd", 0, true, -1);
        translate(c, 0, 1, "x");
        GuessSentences.dueGuess(c, "abcd", 0, true, 0);
        c.clearTemplate();
        c.merge();
        due("obsolete", c.active(), 0);
        GuessSentences.dueGuess(c, "abcd", 0, true, 0);
        GuessSentences.dueGuess(guessed(), "abcde", 0, false, 1);
    }

    @Holds(at = "Terms", words = "of which both are plural or both are not")
    static void termsGuessesArePluralOrNotBoth() {
        Catalogmend c = new Catalogmend();
        mergeAnew(c, "abcd");
        translate(c, 0, 0, "x");
        GuessSentences.dueGuess(c, "abcd", 0, true, -1);
        GuessSentences.dueGuess(c, "abcd", 0, false, 0);
        add(c, "abce", 0, true);
        c.merge();
        translate(c, 1, 0, "y");
        translate(c, 1, 1, "y");
        GuessSentences.dueGuess(c, "abcd", 0, true, 1);
        GuessSentences.dueGuess(c, "abce", 0, false, 0);
    }

    @Holds(at = "Terms", words = "the one whose text has the greatest likeness with that of the message")
    static void termsTheGreatestLikeness() {
        Catalogmend c = GuessSentences.done("abcdefghxx", "abcdefghix", "abcdefgxxx");
        GuessSentences.dueGuess(c, "abcdefghij", 0, false, 1);
        GuessSentences.dueGuess(c, "abcdefghxy", 0, false, 0);
        GuessSentences.dueGuess(c, "abcdefgxxy", 0, false, 2);
    }

    @Holds(at = "Terms", words = "if this is at least the bound")
    static void termsAGuessAtTheBoundAndBelowIt() {
        Catalogmend c = GuessSentences.done("abcdefghijkl");
        c.setBound(58);
        GuessSentences.dueGuess(c, "abcdefgxxxxx", 0, false, 0);
        c.setBound(59);
        GuessSentences.dueGuess(c, "abcdefgxxxxx", 0, false, -1);
    }

    @Holds(at = "Terms", words = "60 at first")
    static void termsTheBoundIs60AtFirst() {
        Catalogmend c = GuessSentences.done("abcde");
        GuessSentences.dueGuess(c, "abcxx", 0, false, 0);
        Catalogmend other = GuessSentences.done("abcdefghijkl");
        GuessSentences.dueGuess(other, "abcdefgxxxxx", 0, false, -1);
        due("the bound", other.setBound(60), 60);
    }

    @Holds(at = "Terms", words = "of several one with the same context, if there is one")
    static void termsTheSameContextOfSeveral() {
        Catalogmend c = GuessSentences.doneInContexts();
        GuessSentences.dueGuess(c, "abcw", 1, false, 1);
        GuessSentences.dueGuess(c, "abcw", 2, false, 3);
        GuessSentences.dueGuess(c, "abcx", 1, false, 0);
    }

    @Holds(at = "Terms", words = "of several the one with the lowest number")
    static void termsTheLowestNumberOfSeveral() {
        Catalogmend c = GuessSentences.doneInContexts();
        GuessSentences.dueGuess(c, "abcw", 3, false, 0);
        GuessSentences.dueGuess(c, "abcw", 0, false, 0);
        GuessSentences.dueGuess(c, "abcw", 1, false, 1);
    }

    // ---- merging the template

    @Holds(at = "Terms", words = "for each message, in order, there is an active entry then")
    static void termsAnActiveEntryForEachMessage() {
        Catalogmend c = small();
        mergeAnew(c, "old 1", "wxyz", "mmmm");
        due("in order", Look.entries(c), "old 1 = alt 1; wxyz = ; mmmm = ; * file 1 = datei 1; dogs = |hunde; ");
        due("active", c.active(), 3);
        mergeAnew(c);
        due("none for none", c.active(), 0);
    }

    @Holds(at = "Terms", words = "the entry with its key, active or obsolete, with its translations and its mark")
    static void termsTheEntryWithItsKey() {
        Catalogmend c = guessed();
        due("no new one", mergeAnew(c, "abcd", "abcde", "abcdf"), 0);
        due("all three", Look.entries(c), "abcd = x; abcde ? x; abcdf ? x; *");
        Catalogmend open = openClash();
        open.merge();
        due("not full, and marked", Look.entries(open), "dogs ? a|; *");
    }

    @Holds(at = "Terms", words = "with the translations of the guess for the message, marked as a guess")
    static void termsANewOneWithAGuess() {
        Catalogmend c = new Catalogmend();
        add(c, "dogs 1", 0, true);
        c.merge();
        translate(c, 0, 0, "hund");
        translate(c, 0, 1, "hunde");
        c.clearTemplate();
        add(c, "dogs 3", 1, true);
        due("one guess", c.merge(), 1);
        due("all its slots", Look.entries(c), "dogs 3 ? hund|hunde; * dogs 1 = hund|hunde; ");
    }

    @Holds(at = "Terms", words = "without such a guess, with empty slots and no mark")
    static void termsANewOneWithoutAGuess() {
        Catalogmend c = new Catalogmend();
        mergeAnew(c, "abcdefghijkl");
        translate(c, 0, 0, "x");
        due("58 is too little", mergeAnew(c, "abcdefgxxxxx"), 0);
        due("empty", Look.entries(c), "abcdefgxxxxx = ; * abcdefghijkl = x; ");
        add(c, "abcdefghijkl", 0, true);
        c.merge();
        due("empty slots", Look.entries(c), "abcdefgxxxxx = ; abcdefghijkl = |; * abcdefghijkl = x; ");
    }

    @Holds(at = "Terms", words = "(Guesses are found among the entries as they were ahead of this merging.)")
    static void termsNoGuessFromAnEntryOfThisMerging() {
        Catalogmend c = new Catalogmend();
        mergeAnew(c, "abcdefghij");
        translate(c, 0, 0, "x");
        due("one guess", mergeAnew(c, "abcdefgxyz", "abcdexxxyz"), 1);
        due("none from the new one", Look.entries(c), "abcdefgxyz ? x; abcdexxxyz = ; * abcdefghij = x; ");
        due("the next merging finds it", mergeAnew(c, "abcdeyxxyz"), 1);
    }

    @Holds(at = "Terms", words = "(Guesses are found among the entries as they were ahead of this merging.)")
    static void termsNumbersForGuessesAreThoseAhead() {
        Catalogmend c = GuessSentences.done("abcx", "abcy");
        translate(c, 1, 0, "y");
        due("one guess", mergeAnew(c, "abcy", "abcw"), 1);
        due("from the lower number as it was", Look.entries(c), "abcy = y; abcw ? a; * abcx = a; ");
    }

    @Holds(at = "Terms", words = "Behind these entries come the others, obsolete, in the order that they had")
    static void termsOthersComeBehindInTheirOrder() {
        Catalogmend c = GuessSentences.done("aaaa", "bbbb", "cccc");
        mergeAnew(c, "bbbb");
        due("the others", Look.entries(c), "bbbb = b; * aaaa = a; cccc = c; ");
        mergeAnew(c, "dddd");
        due("in the order that they had", Look.entries(c), "dddd = ; * bbbb = b; aaaa = a; cccc = c; ");
    }

    @Holds(at = "Terms", words = "but those of them without any translation are gone")
    static void termsOthersWithoutAnyTranslationAreGone() {
        Catalogmend c = new Catalogmend();
        c.setForms(4);
        add(c, "aaaa", 0, true);
        add(c, "bbbb", 0, true);
        c.merge();
        translate(c, 1, 3, "b");
        add(c, "cccc", 0, true);
        due("none is gone that has a message", c.merge() + " " + c.entries(), "0 3");
        mergeAnew(c);
        due("one of four is some", Look.entries(c), "* bbbb = |||b; ");
    }

    /** Only mergeKept() leaves an obsolete entry without any translation. */
    @Holds(at = "Terms", words = "but those of them without any translation are gone")
    static void termsAnObsoleteOneWhoseTranslationWasTakenAwayIsGone() {
        Catalogmend c = KeepSentences.obsoleteTakenAway();
        due("obsolete and empty", Look.entries(c), "* abcd = ; ");
        c.merge();
        due("gone", c.entries(), 0);
        Catalogmend back = KeepSentences.obsoleteTakenAway();
        mergeAnew(back, "abcd");
        due("or brought back", Look.entries(back), "abcd = ; *");
    }

    // ---- constants

    @Holds(at = "Terms", words = "`NONE = -1`: No entry.")
    static void termsNone() {
        due("NONE", Catalogmend.NONE, -1);
        due("no such entry", thrownBy(() -> small().state(Catalogmend.NONE)), INDEX);
    }

    @Holds(at = "Terms",
            words = "States of an entry: it is not full, it is full and marked as a guess, it is full and not marked.")
    static void termsStates() {
        due("OPEN", Catalogmend.OPEN, 0);
        due("GUESSED", Catalogmend.GUESSED, 1);
        due("DONE", Catalogmend.DONE, 2);
        Catalogmend c = guessed();
        due("full and marked", c.state(0), 1);
        due("full and not marked", c.state(2), 2);
        due("not full", small().state(1), 0);
        due("not full and marked", openClash().state(0), 0);
    }

    // ---- what is typed is used

    @Holds(at = "Terms", words = "Texts are typed letter by letter into a buffer and used from there")
    static void termsTheBufferIsUsedAndStays() {
        Catalogmend c = new Catalogmend();
        put(c, "ab");
        c.addMessage(0, false);
        c.merge();
        c.translate(0, 0);
        c.type('c');
        due("message and translation", Look.entries(c), "ab = ab; *");
        c.translate(0, 0);
        due("another translation", Look.entries(c), "ab = abc; *");
    }

    @Holds(at = "Terms", words = "The template is merged into the catalogue")
    static void termsFromTheTemplateToTheOtherTranslator() {
        Catalogmend c = new Catalogmend();
        mergeAnew(c, "open 1", "close 1");
        translate(c, 0, 0, "auf 1");
        due("a guess", mergeAnew(c, "opens 1"), 1);
        c.confirm(0);
        c.keep(0);
        translate(c, 0, 0, "auf 1 a");
        c.keep(1);
        c.restore(0);
        due("no clash", c.mergeKept(), 0);
        due("the other one's", Look.entries(c), "opens 1 = auf 1 a; * open 1 = auf 1; ");
    }
}
