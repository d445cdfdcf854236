import java.util.function.Supplier;

/** The sentences of the promises 13 to 22: translating entries, and asking for them. */
final class EntrySentences extends Checks {
    private EntrySentences() {
    }

    /** The wrong slots of small(): its entry 0 has one, its entry 1 two, the obsolete entry 2 one. */
    private interface SlotCall {
        void on(Catalogmend c, int entry, int slot);
    }

    private static void noSuchSlot(SlotCall call) {
        int[] slots = {1, 2, 1};
        for (int entry = 0; entry < slots.length; entry++) {
            int number = entry;
            for (int slot : new int[] {-1, slots[entry], LEAST, MOST}) {
                refused("slot " + slot + " of the entry " + entry, Checks::small, INDEX,
                        c -> call.on(c, number, slot));
            }
        }
    }

    private static void slotEnds(SlotCall call) {
        for (int slot = -1; slot <= 2; slot++) {
            int asked = slot;
            due("slot " + slot + " of 1", thrownBy(() -> call.on(small(), 0, asked)), slot == 0 ? NOTHING : INDEX);
            due("slot " + slot + " of 2", thrownBy(() -> call.on(small(), 1, asked)),
                    slot == 0 || slot == 1 ? NOTHING : INDEX);
        }
    }

    // ---- translate

    @Holds(at = "Promise 13", words = "Translates a slot by the text in the buffer.")
    static void promise13EachSlotByItself() {
        Catalogmend c = new Catalogmend();
        c.setForms(3);
        add(c, "dogs", 0, true);
        add(c, "cat", 0, false);
        c.merge();
        translate(c, 0, 2, "c");
        translate(c, 0, 0, "a");
        translate(c, 0, 1, "b");
        due("three", Look.entries(c), "dogs = a|b|c; cat = ; *");
        translate(c, 0, 1, TWENTY);
        translate(c, 1, 0, "k");
        due("over a translation", Look.entries(c), "dogs = a|" + TWENTY + "|c; cat = k; *");
        c.type('x');
        c.clearText();
        due("it is not the buffer", Look.entries(c), "dogs = a|" + TWENTY + "|c; cat = k; *");
    }

    @Holds(at = "Promise 13", words = "The mark of the entry is taken away.")
    static void promise13TheMarkIsTakenAway() {
        Catalogmend c = guessed();
        due("marked", c.isMarked(0), true);
        translate(c, 0, 0, "y");
        due("only that one", Look.entries(c), "abcdf = y; * abcde ? x; abcd = x; ");
        Catalogmend same = guessed();
        translate(same, 0, 0, "x");
        due("by the same text too", Look.entries(same), "abcdf = x; * abcde ? x; abcd = x; ");
        Catalogmend open = openClash();
        due("one slot is open still", translate(open, 0, 0, "z"), 1);
        due("with an open slot too", Look.entries(open), "dogs = z|; *");
    }

    @Holds(at = "Promise 13", words = "- `entry`: the number of an entry")
    static void promise13TheEndsOfTheActiveEntries() {
        Catalogmend c = small();
        due("no entry -1", thrownBy(() -> c.translate(-1, 0)), INDEX);
        due("entry 0", c.translate(0, 0), 0);
        due("entry 1, the last active one", c.translate(1, 0), 0);
        due("entry 2, obsolete", thrownBy(() -> c.translate(2, 0)), STATE);
        due("no entry 3", thrownBy(() -> c.translate(3, 0)), INDEX);
    }

    @Holds(at = "Promise 13", words = "- `slot`: the number of a slot, from 0")
    static void promise13TheEndsOfTheSlots() {
        slotEnds((c, entry, slot) -> c.translate(entry, slot));
        Catalogmend c = new Catalogmend();
        c.setForms(4);
        add(c, "dogs", 0, true);
        c.merge();
        due("slot 3 of 4", c.translate(0, 3), 3);
        due("slot 4 of 4", thrownBy(() -> c.translate(0, 4)), INDEX);
    }

    @Holds(at = "Promise 13", words = "Returns how many of its slots have no translation then.")
    static void promise13HowManyHaveNone() {
        Catalogmend c = new Catalogmend();
        c.setForms(4);
        add(c, "dogs", 0, true);
        c.addMessage(0, false);
        c.merge();
        due("three of four", c.translate(0, 2), 3);
        due("the same slot again", c.translate(0, 2), 3);
        due("two", c.translate(0, 0), 2);
        due("one", c.translate(0, 3), 1);
        due("none", c.translate(0, 1), 0);
        due("none again", c.translate(0, 1), 0);
        due("none of one", c.translate(1, 0), 0);
    }

    @Holds(at = "Promise 13", words = "Throws `IndexOutOfBoundsException` if there is no such entry or slot")
    static void promise13NoSuchEntry() {
        noSuchEntry((c, entry) -> c.translate(entry, 0));
    }

    @Holds(at = "Promise 13", words = "Throws `IndexOutOfBoundsException` if there is no such entry or slot")
    static void promise13NoSuchSlot() {
        noSuchSlot((c, entry, slot) -> c.translate(entry, slot));
    }

    @Holds(at = "Promise 13", words = "Throws `IllegalStateException` if the buffer is empty")
    static void promise13TheBufferIsEmpty() {
        refused("an open slot", Checks::emptied, STATE, c -> c.translate(1, 0));
        refused("a translation is not taken away", Checks::emptied, STATE, c -> c.translate(0, 0));
        refused("no such entry", Checks::emptied, INDEX, c -> c.translate(3, 0));
        refused("no such slot", Checks::emptied, INDEX, c -> c.translate(0, 1));
        Supplier<Catalogmend> marked = () -> {
            Catalogmend c = guessed();
            c.clearText();
            return c;
        };
        refused("a mark stays", marked, STATE, c -> c.translate(0, 0));
        Catalogmend one = emptied();
        one.type(' ');
        due("one character", one.translate(1, 0), 0);
    }

    @Holds(at = "Promise 13", words = "or the entry is obsolete")
    static void promise13TheEntryIsObsolete() {
        refused("an obsolete entry", Checks::small, STATE, c -> c.translate(2, 0));
        refused("an obsolete entry, no text", Checks::emptied, STATE, c -> c.translate(2, 0));
        refused("its slot 1", Checks::small, INDEX, c -> c.translate(2, 1));
        refused("a marked one", Checks::guessed, STATE, c -> c.translate(1, 0));
        Catalogmend c = small();
        mergeAnew(c, "old 1");
        due("active again", translate(c, 0, 0, "y"), 0);
    }

    // ---- confirm

    @Holds(at = "Promise 14", words = "Takes the mark of an entry away.")
    static void promise14ActiveAndObsoleteOnes() {
        Catalogmend c = guessed();
        c.confirm(1);
        due("an obsolete one", Look.entries(c), "abcdf ? x; * abcde = x; abcd = x; ");
        c.confirm(0);
        due("an active one", Look.entries(c), "abcdf = x; * abcde = x; abcd = x; ");
        due("done", c.state(0), Catalogmend.DONE);
        Catalogmend open = openClash();
        open.confirm(0);
        due("one that is not full", Look.entries(open), "dogs = a|; *");
    }

    @Holds(at = "Promise 14", words = "- `entry`: the number of an entry")
    static void promise14TheEndsOfTheEntries() {
        Supplier<Catalogmend> marked = EntrySentences::threeMarked;
        due("no entry -1", thrownBy(() -> marked.get().confirm(-1)), INDEX);
        due("entry 0", thrownBy(() -> marked.get().confirm(0)), NOTHING);
        due("entry 2", thrownBy(() -> marked.get().confirm(2)), NOTHING);
        due("entry 3, unmarked", thrownBy(() -> marked.get().confirm(3)), STATE);
        due("no entry 4", thrownBy(() -> marked.get().confirm(4)), INDEX);
    }

    private static Catalogmend threeMarked() {
        Catalogmend c = guessed();
        mergeAnew(c, "abcdg", "abcde");
        return c;
    }

    @Holds(at = "Promise 14", words = "Throws `IndexOutOfBoundsException` if there is no such entry")
    static void promise14NoSuchEntry() {
        noSuchEntry(Catalogmend::confirm);
        for (int entry : new int[] {-1, 3, LEAST, MOST}) {
            refused("entry " + entry + " beside marked ones", Checks::guessed, INDEX, c -> c.confirm(entry));
        }
    }

    @Holds(at = "Promise 14", words = "Throws `IllegalStateException` if it is not marked")
    static void promise14NotMarked() {
        refused("an obsolete one", Checks::guessed, STATE, c -> c.confirm(2));
        refused("a done one", Checks::small, STATE, c -> c.confirm(0));
        refused("an open one", Checks::small, STATE, c -> c.confirm(1));
        Supplier<Catalogmend> confirmed = () -> {
            Catalogmend c = guessed();
            c.confirm(0);
            return c;
        };
        refused("a second time", confirmed, STATE, c -> c.confirm(0));
    }

    // ---- state, isMarked and slots

    @Holds(at = "Promise 15", words = "Returns the state of an entry, active or obsolete.")
    static void promise15ActiveAndObsoleteOnes() {
        Catalogmend c = guessed();
        due("active", c.state(0), Catalogmend.GUESSED);
        due("obsolete and guessed", c.state(1), Catalogmend.GUESSED);
        due("obsolete and done", c.state(2), Catalogmend.DONE);
        Catalogmend half = small();
        half.clearTemplate();
        half.merge();
        due("obsolete and open", half.state(1), Catalogmend.OPEN);
        onlyAsks("state", Checks::rich, x -> x.state(2));
    }

    @Holds(at = "Promise 15", words = "- `entry`: the number of an entry")
    static void promise15TheEndsOfTheEntries() {
        entryEnds(Catalogmend::state);
    }

    @Holds(at = "Promise 15", words = "Returns OPEN, GUESSED or DONE.")
    static void promise15FromOpenToDone() {
        Catalogmend c = small();
        due("half done", c.state(1), Catalogmend.OPEN);
        translate(c, 1, 0, "hund");
        due("full", c.state(1), Catalogmend.DONE);
        Catalogmend marked = guessed();
        due("guessed", marked.state(0), Catalogmend.GUESSED);
        marked.confirm(0);
        due("confirmed", marked.state(0), Catalogmend.DONE);
        Catalogmend clash = openClash();
        due("marked and not full", clash.state(0), Catalogmend.OPEN);
        translate(clash, 0, 1, "z");
        due("translated and full", clash.state(0), Catalogmend.DONE);
    }

    @Holds(at = "Promise 15", words = "Throws `IndexOutOfBoundsException` if there is no such entry")
    static void promise15NoSuchEntry() {
        noSuchEntry(Catalogmend::state);
    }

    @Holds(at = "Promise 16", words = "Tells whether an entry is marked as a guess.")
    static void promise16MarkedOrNot() {
        Catalogmend c = guessed();
        due("marked", c.isMarked(0), true);
        due("marked and obsolete", c.isMarked(1), true);
        due("not marked", c.isMarked(2), false);
        due("marked and not full", openClash().isMarked(0), true);
        due("open", small().isMarked(1), false);
        onlyAsks("isMarked", Checks::rich, x -> x.isMarked(2));
    }

    @Holds(at = "Promise 16", words = "- `entry`: the number of an entry")
    static void promise16TheEndsOfTheEntries() {
        entryEnds(Catalogmend::isMarked);
    }

    @Holds(at = "Promise 16", words = "Throws `IndexOutOfBoundsException` if there is no such entry")
    static void promise16NoSuchEntry() {
        noSuchEntry(Catalogmend::isMarked);
    }

    @Holds(at = "Promise 17", words = "Returns how many slots an entry has.")
    static void promise17OneToFour() {
        Catalogmend c = small();
        due("one", c.slots(0), 1);
        due("two for a plural one", c.slots(1), 2);
        due("one for an obsolete one", c.slots(2), 1);
        for (int forms = 1; forms <= 4; forms++) {
            Catalogmend each = new Catalogmend();
            each.setForms(forms);
            add(each, "a", 0, true);
            each.merge();
            due("as many as forms", each.slots(0), forms);
        }
        onlyAsks("slots", Checks::rich, x -> x.slots(0));
    }

    @Holds(at = "Promise 17", words = "- `entry`: the number of an entry")
    static void promise17TheEndsOfTheEntries() {
        entryEnds(Catalogmend::slots);
    }

    @Holds(at = "Promise 17", words = "Throws `IndexOutOfBoundsException` if there is no such entry")
    static void promise17NoSuchEntry() {
        noSuchEntry(Catalogmend::slots);
    }

    // ---- textAt

    @Holds(at = "Promise 18", words = "Returns a character of the text of an entry.")
    static void promise18OfTheTextOfAnyEntry() {
        due("active", Look.text(small(), 0, 9), "file 1");
        due("not full", Look.text(small(), 1, 9), "dogs");
        due("obsolete", Look.text(small(), 2, 9), "old 1");
        onlyAsks("textAt", Checks::rich, x -> x.textAt(0, 0));
    }

    @Holds(at = "Promise 18", words = "- `entry`: the number of an entry")
    static void promise18TheEndsOfTheEntries() {
        entryEnds((c, entry) -> c.textAt(entry, 0));
    }

    @Holds(at = "Promise 18", words = "- `place`: from 0")
    static void promise18PlacesFrom0() {
        due("place -1", thrownBy(() -> small().textAt(1, -1)), INDEX);
        due("place 0", small().textAt(1, 0), 'd');
        due("place 3", small().textAt(1, 3), 's');
    }

    @Holds(at = "Promise 18", words = "Returns the character; a space behind the last one.")
    static void promise18TheLastCharacterAndBehindIt() {
        Catalogmend c = new Catalogmend();
        mergeAnew(c, TWENTY, "a", " b");
        for (int place = 0; place < 20; place++) {
            due("place " + place, c.textAt(0, place), TWENTY.charAt(place));
        }
        due("place 20 of 20", c.textAt(0, 20), ' ');
        due("place 0 of 1", c.textAt(1, 0), 'a');
        due("place 1 of 1", c.textAt(1, 1), ' ');
        due("a space ahead", Look.text(c, 2, 4), " b");
        due("the greatest place", c.textAt(0, MOST), ' ');
    }

    @Holds(at = "Promise 18", words = "Throws `IndexOutOfBoundsException` if there is no such entry")
    static void promise18NoSuchEntry() {
        noSuchEntry((c, entry) -> c.textAt(entry, 0));
    }

    @Holds(at = "Promise 18", words = "or place is below 0")
    static void promise18PlaceBelow0() {
        for (int place : new int[] {-1, -20, LEAST}) {
            refused("place " + place, Checks::small, INDEX, c -> c.textAt(0, place));
            refused("place " + place + " of an obsolete one", Checks::small, INDEX, c -> c.textAt(2, place));
            refused("place " + place + " of none", Checks::small, INDEX, c -> c.textAt(3, place));
        }
    }

    // ---- translationAt

    @Holds(at = "Promise 19", words = "Returns a character of the translation in a slot.")
    static void promise19OfTheTranslationInAnySlot() {
        Catalogmend c = small();
        translate(c, 1, 0, "hund");
        due("active", Look.translation(c, 0, 0), "datei 1");
        due("the first slot", Look.translation(c, 1, 0), "hund");
        due("the last slot", Look.translation(c, 1, 1), "hunde");
        due("obsolete", Look.translation(c, 2, 0), "alt 1");
        onlyAsks("translationAt", Checks::rich, x -> x.translationAt(0, 1, 0));
    }

    @Holds(at = "Promise 19", words = "- `entry`: the number of an entry")
    static void promise19TheEndsOfTheEntries() {
        entryEnds((c, entry) -> c.translationAt(entry, 0, 0));
    }

    @Holds(at = "Promise 19", words = "- `slot`: the number of a slot")
    static void promise19TheEndsOfTheSlots() {
        slotEnds((c, entry, slot) -> c.translationAt(entry, slot, 0));
    }

    @Holds(at = "Promise 19", words = "- `place`: from 0")
    static void promise19PlacesFrom0() {
        due("place -1", thrownBy(() -> small().translationAt(1, 1, -1)), INDEX);
        due("place 0", small().translationAt(1, 1, 0), 'h');
        due("place 4", small().translationAt(1, 1, 4), 'e');
    }

    @Holds(at = "Promise 19", words = "Returns the character; a space behind the last one")
    static void promise19TheLastCharacterAndBehindIt() {
        Catalogmend c = small();
        translate(c, 1, 0, TWENTY);
        for (int place = 0; place < 20; place++) {
            due("place " + place, c.translationAt(1, 0, place), TWENTY.charAt(place));
        }
        due("place 20 of 20", c.translationAt(1, 0, 20), ' ');
        due("the greatest place", c.translationAt(1, 0, MOST), ' ');
        translate(c, 0, 0, "z");
        due("place 0 of 1", c.translationAt(0, 0, 0), 'z');
        due("place 1 of 1", c.translationAt(0, 0, 1), ' ');
    }

    @Holds(at = "Promise 19", words = "or if the slot has no translation")
    static void promise19NoTranslation() {
        due("place 0", small().translationAt(1, 0, 0), ' ');
        due("the greatest place", small().translationAt(1, 0, MOST), ' ');
        due("place -1", thrownBy(() -> small().translationAt(1, 0, -1)), INDEX);
    }

    @Holds(at = "Promise 19", words = "Throws `IndexOutOfBoundsException` if there is no such entry or slot")
    static void promise19NoSuchEntry() {
        noSuchEntry((c, entry) -> c.translationAt(entry, 0, 0));
    }

    @Holds(at = "Promise 19", words = "Throws `IndexOutOfBoundsException` if there is no such entry or slot")
    static void promise19NoSuchSlot() {
        noSuchSlot((c, entry, slot) -> c.translationAt(entry, slot, 0));
    }

    @Holds(at = "Promise 19", words = "or place is below 0")
    static void promise19PlaceBelow0() {
        for (int place : new int[] {-1, -20, LEAST}) {
            refused("place " + place, Checks::small, INDEX, c -> c.translationAt(0, 0, place));
            refused("place " + place + " of no translation", Checks::small, INDEX,
                    c -> c.translationAt(1, 0, place));
            refused("place " + place + " of no slot", Checks::small, INDEX, c -> c.translationAt(0, 1, place));
            refused("place " + place + " of no entry", Checks::small, INDEX, c -> c.translationAt(3, 0, place));
        }
    }

    // ---- lengthOf

    @Holds(at = "Promise 20", words = "Returns the length of the translation in a slot.")
    static void promise20From1To20() {
        Catalogmend c = small();
        due("the last slot", c.lengthOf(1, 1), 5);
        due("obsolete", c.lengthOf(2, 0), 5);
        for (int length = 1; length <= 20; length++) {
            translate(c, 0, 0, TWENTY.substring(0, length));
            due("length", c.lengthOf(0, 0), length);
        }
        translate(c, 0, 0, " a ");
        due("spaces count", c.lengthOf(0, 0), 3);
        onlyAsks("lengthOf", Checks::rich, x -> x.lengthOf(0, 1));
    }

    @Holds(at = "Promise 20", words = "- `entry`: the number of an entry")
    static void promise20TheEndsOfTheEntries() {
        entryEnds((c, entry) -> c.lengthOf(entry, 0));
    }

    @Holds(at = "Promise 20", words = "- `slot`: the number of a slot")
    static void promise20TheEndsOfTheSlots() {
        slotEnds((c, entry, slot) -> c.lengthOf(entry, slot));
    }

    @Holds(at = "Promise 20", words = "Returns the length; 0 if the slot has no translation.")
    static void promise20NoTranslation() {
        due("none", small().lengthOf(1, 0), 0);
        Catalogmend c = small();
        translate(c, 1, 0, "a");
        due("one character", c.lengthOf(1, 0), 1);
    }

    @Holds(at = "Promise 20", words = "Throws `IndexOutOfBoundsException` if there is no such entry or slot")
    static void promise20NoSuchEntry() {
        noSuchEntry((c, entry) -> c.lengthOf(entry, 0));
    }

    @Holds(at = "Promise 20", words = "Throws `IndexOutOfBoundsException` if there is no such entry or slot")
    static void promise20NoSuchSlot() {
        noSuchSlot((c, entry, slot) -> c.lengthOf(entry, slot));
    }

    // ---- fault

    private static void dueFault(String text, String translation, int fault) {
        Catalogmend c = new Catalogmend();
        mergeAnew(c, text);
        translate(c, 0, 0, translation);
        due("fault of " + text + " and " + translation, c.fault(0), fault);
    }

    @Holds(at = "Promise 21", words = "Returns what is wrong with the digits of an entry's translations.")
    static void promise21ActiveAndObsoleteOnes() {
        Catalogmend c = small();
        due("nothing", c.fault(0), 0);
        translate(c, 0, 0, "datei");
        due("one is missing", c.fault(0), 2);
        c.clearTemplate();
        c.merge();
        due("obsolete", c.fault(0), 2);
        due("obsolete, and nothing wrong", c.fault(2), 0);
        onlyAsks("fault", Checks::rich, x -> x.fault(0));
    }

    @Holds(at = "Promise 21", words = "- `entry`: the number of an entry")
    static void promise21TheEndsOfTheEntries() {
        entryEnds(Catalogmend::fault);
    }

    @Holds(at = "Promise 21", words = "Returns 2 if some translation does not have each digit as often as the text")
    static void promise21NotAsOften() {
        dueFault("a 1 b 2", "1", 2);
        dueFault("a 1", "1 1", 2);
        dueFault("a", "3", 2);
        dueFault("3", "a", 2);
        dueFault("a 1", "2", 2);
        dueFault("22", "13", 2);
        dueFault("1123", "1223", 2);
        dueFault("33333333333333333333", "3333333333333333333", 2);
        dueFault("11111111111111111111", "11111111111111111112", 2);
        dueFault("12", "211", 2);
    }

    @Holds(at = "Promise 21", words = "otherwise 1 if some translation has its digits in another order than the text")
    static void promise21InAnotherOrder() {
        dueFault("a 1 b 2", "2 1", 1);
        dueFault("113", "131", 1);
        dueFault("1123", "2113", 1);
        dueFault("12312312312312312312", "21312312312312312312", 1);
        dueFault("12312312312312312312", "12312312312312312321", 1);
    }

    @Holds(at = "Promise 21", words = "otherwise 0")
    static void promise21NothingIsWrong() {
        dueFault("abc", "x", 0);
        dueFault("a 1 b 2", "1x2", 0);
        dueFault("11", "1 1", 0);
        dueFault("ab1cd", "wxyz 1", 0);
        dueFault("12312312312312312312", "12312312312312312312", 0);
    }

    /** Each row of four characters that are "a" or a digit, against each one. */
    @Holds(at = "Promise 21", words = "Returns 2 if some translation does not have each digit as often as the text")
    static void promise21AllRowsOfFour() {
        for (int text = 0; text < 256; text++) {
            for (int first = 0; first < 256; first += 64) {
                dueFaults(rowOfFour(text), first, first + 64);
            }
        }
    }

    private static void dueFaults(String text, int from, int to) {
        Catalogmend c = new Catalogmend();
        mergeAnew(c, text);
        for (int number = from; number < to; number++) {
            String translation = rowOfFour(number);
            translate(c, 0, 0, translation);
            due("fault of " + text + " and " + translation, c.fault(0), faultByWords(text, translation));
        }
    }

    private static String rowOfFour(int number) {
        StringBuilder row = new StringBuilder();
        for (int place = 0; place < 4; place++) {
            row.append("a123".charAt(number >> 2 * place & 3));
        }
        return row.toString();
    }

    private static int faultByWords(String text, String translation) {
        String digits = text.replace("a", "");
        String others = translation.replace("a", "");
        for (char digit = '1'; digit <= '3'; digit++) {
            int sign = digit;
            if (digits.chars().filter(x -> x == sign).count() != others.chars().filter(x -> x == sign).count()) {
                return 2;
            }
        }
        return digits.equals(others) ? 0 : 1;
    }

    @Holds(at = "Promise 21", words = "if some translation")
    static void promise21TheWorstOfAllSlots() {
        Catalogmend c = new Catalogmend();
        c.setForms(4);
        add(c, "1 and 2", 0, true);
        c.merge();
        due("no translation", c.fault(0), 0);
        translate(c, 0, 1, "2 1");
        due("1 in the middle", c.fault(0), 1);
        translate(c, 0, 2, "1 2");
        due("0 behind it", c.fault(0), 1);
        translate(c, 0, 0, "1");
        due("2 ahead of it", c.fault(0), 2);
        translate(c, 0, 0, "1 2");
        translate(c, 0, 3, "12 1");
        due("2 in the last slot", c.fault(0), 2);
        translate(c, 0, 3, "1 2");
        translate(c, 0, 1, "1 2");
        due("0 in all", c.fault(0), 0);
    }

    @Holds(at = "Promise 21", words = "Throws `IndexOutOfBoundsException` if there is no such entry")
    static void promise21NoSuchEntry() {
        noSuchEntry(Catalogmend::fault);
    }

    // ---- count

    @Holds(at = "Promise 22", words = "Counts the active entries with a state.")
    static void promise22NoObsoleteOnes() {
        Catalogmend c = new Catalogmend();
        mergeAnew(c, "abcd", "mnop", "wxyz");
        translate(c, 0, 0, "x");
        translate(c, 1, 0, "y");
        due("states", counts(c), "1 0 2");
        mergeAnew(c, "mnop", "abcde", "abcdf", "qqqq", "rrrr", "ssss");
        due("without the obsolete one", counts(c), "3 2 1");
        mergeAnew(c);
        due("none is active", counts(c), "0 0 0");
        due("marked and not full", counts(openClash()), "1 0 0");
        onlyAsks("count", Checks::rich, x -> x.count(1));
    }

    @Holds(at = "Promise 22", words = "Counts the active entries with a state.")
    static void promise22FromNoneToTwelve() {
        due("none", counts(new Catalogmend()), "0 0 0");
        due("twelve", counts(MergeSentences.full()), "12 0 0");
    }

    private static String counts(Catalogmend c) {
        return c.count(Catalogmend.OPEN) + " " + c.count(Catalogmend.GUESSED) + " " + c.count(Catalogmend.DONE);
    }

    @Holds(at = "Promise 22", words = "- `state`: OPEN, GUESSED or DONE")
    static void promise22StatesFrom0To2() {
        for (int state = -1; state <= 3; state++) {
            int asked = state;
            due("state " + state, thrownBy(() -> small().count(asked)),
                    state < 0 || state > 2 ? ARGUMENT : NOTHING);
        }
    }

    @Holds(at = "Promise 22", words = "Throws `IllegalArgumentException` if there is no such state")
    static void promise22NoSuchState() {
        for (int state : new int[] {-1, 3, LEAST, MOST}) {
            refused("state " + state, Checks::small, ARGUMENT, c -> c.count(state));
            refused("state " + state + " of none", Catalogmend::new, ARGUMENT, c -> c.count(state));
        }
    }
}
