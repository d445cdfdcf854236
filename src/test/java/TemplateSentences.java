import java.util.function.Supplier;

/** The sentences of the promises 4 to 8: the template, the plural forms and the bound. */
final class TemplateSentences extends Checks {
    private TemplateSentences() {
    }

    /** A new object with twelve messages: eight with this text, four with it twice, that is typed. */
    static Catalogmend twelve(String text) {
        Catalogmend c = new Catalogmend();
        put(c, text);
        addKeys(c, 8);
        put(c, text + text);
        addKeys(c, 4);
        return c;
    }

    // ---- clearTemplate

    @Holds(at = "Promise 4", words = "Empties the template.")
    static void promise4TheTemplateIsEmptyThen() {
        Catalogmend c = small();
        c.clearTemplate();
        due("messages", c.messages(), 0);
        due("a message comes back", add(c, "dogs", 3, true), 1);
        c.merge();
        due("only that one", Look.entries(c), "dogs = |hunde; * file 1 = datei 1; old 1 = alt 1; ");
    }

    @Holds(at = "Promise 4", words = "Empties the template.")
    static void promise4ThereIsRoomForTwelveThen() {
        Catalogmend c = twelve("q");
        c.clearTemplate();
        put(c, "r");
        addKeys(c, 8);
        put(c, "rr");
        addKeys(c, 4);
        due("messages", c.messages(), 12);
        c.merge();
        due("the last one of them", Look.text(c, 11, 20), "rr");
    }

    @Holds(at = "Promise 4", words = "Empties the template.")
    static void promise4TheCatalogueStays() {
        Catalogmend c = guessed();
        String before = Look.entries(c);
        c.clearTemplate();
        due("entries", Look.entries(c), before);
    }

    @Holds(at = "Promise 4", words = "Returns how many messages it had.")
    static void promise4HowManyItHad() {
        due("none", new Catalogmend().clearTemplate(), 0);
        Catalogmend c = twelve("q");
        due("twelve", c.clearTemplate(), 12);
        due("none then", c.clearTemplate(), 0);
        add(c, "a", 0, false);
        due("one", c.clearTemplate(), 1);
    }

    // ---- addMessage

    @Holds(at = "Promise 5", words = "Adds a message with the text in the buffer behind those of the template.")
    static void promise5BehindThoseOfTheTemplate() {
        Catalogmend c = new Catalogmend();
        add(c, "bb", 0, false);
        c.type('b');
        c.addMessage(0, false);
        add(c, "a", 0, false);
        due("the catalogue waits for merge", c.entries(), 0);
        c.merge();
        due("in order", Look.entries(c), "bb = ; bbb = ; a = ; *");
    }

    @Holds(at = "Promise 5", words = "- `context`: 0 to 3")
    static void promise5Contexts() {
        for (int context = -1; context <= 4; context++) {
            int told = context;
            String due = context < 0 || context > 3 ? ARGUMENT : "3";
            due("context " + context, answer(() -> small().addMessage(told, false)), due);
        }
    }

    @Holds(at = "Promise 5", words = "- `isPlural`: whether it is plural")
    static void promise5PluralOrNot() {
        Catalogmend c = new Catalogmend();
        due("not plural", add(c, "a", 0, false), 1);
        due("plural", c.addMessage(0, true), 2);
        c.merge();
        due("slots", c.slots(0) + " " + c.slots(1), "1 2");
    }

    @Holds(at = "Promise 5", words = "Returns how many messages the template has then.")
    static void promise5HowManyThen() {
        Catalogmend c = new Catalogmend();
        for (int messages = 1; messages <= 12; messages++) {
            due("messages", add(c, TWENTY.substring(0, messages), 3, true), messages);
        }
        c.clearTemplate();
        due("the first again", c.addMessage(3, true), 1);
    }

    @Holds(at = "Promise 5", words = "Throws `IllegalArgumentException` if context is out of range")
    static void promise5ContextOutOfRange() {
        for (int context : new int[] {-1, 4, LEAST, MOST}) {
            refused("context " + context, Checks::small, ARGUMENT, c -> c.addMessage(context, false));
            refused("context " + context + " of nothing", Checks::emptied, ARGUMENT,
                    c -> c.addMessage(context, true));
        }
    }

    @Holds(at = "Promise 5", words = "Throws `IllegalStateException` if the buffer is empty")
    static void promise5TheBufferIsEmpty() {
        refused("no character", Checks::emptied, STATE, c -> c.addMessage(0, false));
        refused("no character, plural", Checks::emptied, STATE, c -> c.addMessage(3, true));
        Catalogmend c = emptied();
        c.type('a');
        due("one character", c.addMessage(0, false), 3);
    }

    @Holds(at = "Promise 5", words = "the template has a message with that key")
    static void promise5AMessageWithThatKey() {
        Supplier<Catalogmend> dogs = () -> {
            Catalogmend c = small();
            put(c, "dogs");
            return c;
        };
        refused("the same key", dogs, STATE, c -> c.addMessage(3, true));
        due("not plural", dogs.get().addMessage(3, false), 3);
        due("another context", dogs.get().addMessage(2, true), 3);
        Catalogmend longer = dogs.get();
        longer.type(' ');
        due("a longer text", longer.addMessage(3, true), 3);
    }

    @Holds(at = "Promise 5", words = "the template has a message with that key")
    static void promise5AnEntryWithThatKeyIsNone() {
        Catalogmend c = small();
        due("the key of an obsolete entry", add(c, "old 1", 0, false), 3);
        c.clearTemplate();
        due("the key of an active entry", add(c, "dogs", 3, true), 1);
    }

    @Holds(at = "Promise 5", words = "or it has 12")
    static void promise5TheTwelfthAndTheThirteenth() {
        Catalogmend c = new Catalogmend();
        put(c, "q");
        addKeys(c, 8);
        put(c, "qq");
        addKeys(c, 3);
        due("the 12th", c.addMessage(3, false), 12);
        refused("the 13th", () -> twelve("q"), STATE, x -> x.addMessage(3, true));
        refused("a 13th of the same key", () -> twelve("q"), STATE, x -> x.addMessage(3, false));
        refused("a 13th of a wrong context", () -> twelve("q"), ARGUMENT, x -> x.addMessage(4, true));
    }

    // ---- messages

    @Holds(at = "Promise 6", words = "Returns how many messages the template has.")
    static void promise6HowMany() {
        Catalogmend c = new Catalogmend();
        due("none", c.messages(), 0);
        add(c, "a", 0, false);
        due("one", c.messages(), 1);
        c.merge();
        due("one behind merge", c.messages(), 1);
        c.clearTemplate();
        due("none behind clearTemplate", c.messages(), 0);
        due("messages are not entries", c.entries(), 1);
        due("twelve", twelve("q").messages(), 12);
        onlyAsks("messages", Checks::rich, Catalogmend::messages);
    }

    // ---- setForms

    @Holds(at = "Promise 7", words = "Sets how many plural forms the language has.")
    static void promise7ForWhatIsMergedThen() {
        Catalogmend c = new Catalogmend();
        add(c, "a", 0, true);
        c.setForms(4);
        due("a template is in no way", c.setForms(3), 4);
        c.merge();
        due("slots", c.slots(0), 3);
    }

    @Holds(at = "Promise 7", words = "- `forms`: 1 to 4")
    static void promise7FormsFrom1To4() {
        for (int forms = 0; forms <= 5; forms++) {
            int told = forms;
            due("forms " + forms, answer(() -> new Catalogmend().setForms(told)),
                    forms < 1 || forms > 4 ? ARGUMENT : "2");
        }
    }

    @Holds(at = "Promise 7", words = "Returns the number before.")
    static void promise7TheNumberBefore() {
        Catalogmend c = new Catalogmend();
        due("2 at first", c.setForms(1), 2);
        due("1", c.setForms(4), 1);
        due("4", c.setForms(4), 4);
        due("0 is refused", thrownBy(() -> c.setForms(0)), ARGUMENT);
        due("4 still", c.setForms(2), 4);
    }

    @Holds(at = "Promise 7", words = "Throws `IllegalArgumentException` if forms is out of range")
    static void promise7FormsOutOfRange() {
        for (int forms : new int[] {0, 5, -1, LEAST, MOST}) {
            refused("forms " + forms, Catalogmend::new, ARGUMENT, c -> c.setForms(forms));
            refused("forms " + forms + " with entries", Checks::small, ARGUMENT, c -> c.setForms(forms));
        }
    }

    @Holds(at = "Promise 7", words = "Throws `IllegalStateException` if the catalogue has entries")
    static void promise7TheCatalogueHasEntries() {
        Supplier<Catalogmend> one = () -> {
            Catalogmend c = new Catalogmend();
            mergeAnew(c, "a");
            return c;
        };
        refused("one open entry", one, STATE, c -> c.setForms(3));
        refused("the same number", one, STATE, c -> c.setForms(2));
        Supplier<Catalogmend> obsolete = () -> {
            Catalogmend c = one.get();
            translate(c, 0, 0, "b");
            mergeAnew(c);
            return c;
        };
        refused("one obsolete entry", obsolete, STATE, c -> c.setForms(1));
        Catalogmend gone = one.get();
        mergeAnew(gone);
        due("no entry any more", gone.setForms(4), 2);
    }

    @Holds(at = "Promise 7", words = "or something is kept")
    static void promise7SomethingIsKept() {
        for (int place = 0; place < 2; place++) {
            int at = place;
            Supplier<Catalogmend> kept = () -> {
                Catalogmend c = new Catalogmend();
                mergeAnew(c, "a");
                c.keep(at);
                mergeAnew(c);
                return c;
            };
            due("no entries", kept.get().entries(), 0);
            refused("an entry is kept at " + place, kept, STATE, c -> c.setForms(3));
        }
    }

    /** A catalogue without entries that was kept is kept. */
    @Holds(at = "Promise 7", words = "or something is kept")
    static void promise7ACatalogueWithoutEntriesIsKept() {
        for (int place = 0; place < 2; place++) {
            int at = place;
            Supplier<Catalogmend> kept = () -> {
                Catalogmend c = new Catalogmend();
                c.keep(at);
                return c;
            };
            refused("nothing but the keeping at " + place, kept, STATE, c -> c.setForms(3));
            Catalogmend restored = kept.get();
            restored.restore(place);
            due("it stays kept", thrownBy(() -> restored.setForms(3)), STATE);
        }
        Catalogmend refused = new Catalogmend();
        due("keep(2) keeps nothing", thrownBy(() -> refused.keep(2)), INDEX);
        due("so forms are set", refused.setForms(3), 2);
    }

    // ---- setBound

    @Holds(at = "Promise 8", words = "Sets the bound for guesses.")
    static void promise8ForGuessesAndForMerge() {
        Catalogmend c = GuessSentences.done("abcde");
        c.setBound(60);
        GuessSentences.dueGuess(c, "abcyz", 0, false, 0);
        c.setBound(61);
        GuessSentences.dueGuess(c, "abcyz", 0, false, -1);
        due("merge below the bound", mergeAnew(c, "abcyz"), 0);
        c.setBound(60);
        due("merge at the bound", mergeAnew(c, "abcxx"), 1);
    }

    @Holds(at = "Promise 8", words = "- `bound`: 1 to 100")
    static void promise8BoundsFrom1To100() {
        for (int bound = -1; bound <= 102; bound++) {
            int told = bound;
            due("bound " + bound, answer(() -> new Catalogmend().setBound(told)),
                    bound < 1 || bound > 100 ? ARGUMENT : "60");
        }
    }

    @Holds(at = "Promise 8", words = "- `bound`: 1 to 100")
    static void promise8GuessesByTheLeastAndTheGreatest() {
        Catalogmend c = GuessSentences.done(TWENTY);
        c.setBound(1);
        GuessSentences.dueGuess(c, "a", 0, false, 0);
        GuessSentences.dueGuess(c, "z", 0, false, -1);
        c.setBound(100);
        GuessSentences.dueGuess(c, TWENTY, 3, false, 0);
        GuessSentences.dueGuess(c, TWENTY.substring(0, 19), 0, false, -1);
    }

    @Holds(at = "Promise 8", words = "Returns the bound before.")
    static void promise8TheBoundBefore() {
        Catalogmend c = new Catalogmend();
        due("60 at first", c.setBound(1), 60);
        due("1", c.setBound(100), 1);
        due("101 is refused", thrownBy(() -> c.setBound(101)), ARGUMENT);
        due("0 is refused", thrownBy(() -> c.setBound(0)), ARGUMENT);
        due("100 still", c.setBound(60), 100);
    }

    @Holds(at = "Promise 8", words = "Throws `IllegalArgumentException` if bound is out of range")
    static void promise8BoundOutOfRange() {
        for (int bound : new int[] {0, 101, -1, LEAST, MOST}) {
            refused("bound " + bound, Checks::rich, ARGUMENT, c -> c.setBound(bound));
        }
    }
}
