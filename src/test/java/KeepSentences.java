import java.util.function.Supplier;

/** The sentences of the promises 26 to 28: keeping catalogues, and merging them. */
final class KeepSentences extends Checks {
    private KeepSentences() {
    }

    // ---- keep

    @Holds(at = "Promise 26", words = "Keeps the catalogue as it is now.")
    static void promise26AsItIsNow() {
        Catalogmend c = guessed();
        String before = Look.entries(c);
        c.keep(0);
        due("the catalogue stays", Look.entries(c), before);
        c.confirm(0);
        translate(c, 0, 0, "changed");
        String then = Look.entries(c);
        c.keep(1);
        mergeAnew(c, "qqqq");
        c.restore(0);
        due("as it was first", Look.entries(c), before);
        c.restore(1);
        due("as it was then", Look.entries(c), then);
    }

    @Holds(at = "Promise 26", words = "- `place`: 0 or 1")
    static void promise26Places() {
        for (int place = -1; place <= 2; place++) {
            int asked = place;
            due("place " + place, thrownBy(() -> small().keep(asked)),
                    place == 0 || place == 1 ? NOTHING : INDEX);
        }
    }

    @Holds(at = "Promise 26", words = "what was kept there is lost")
    static void promise26WhatWasKeptIsLost() {
        for (int place = 0; place < 2; place++) {
            Catalogmend c = small();
            c.keep(1 - place);
            c.keep(place);
            mergeAnew(c, "old 1");
            translate(c, 0, 0, "new");
            c.keep(place);
            mergeAnew(c, "qqqq");
            c.restore(place);
            due("the later one", Look.entries(c), "old 1 = new; * file 1 = datei 1; dogs = |hunde; ");
            c.restore(1 - place);
            due("the other place", Look.entries(c), "file 1 = datei 1; dogs = |hunde; * old 1 = alt 1; ");
        }
    }

    @Holds(at = "Promise 26", words = "Keeps the catalogue as it is now.")
    static void promise26ACatalogueOfNoneAndOfForty() {
        Catalogmend c = new Catalogmend();
        c.keep(0);
        fill(c, 40);
        c.keep(1);
        due("none", c.restore(0), 0);
        due("forty", c.restore(1), 40);
        c.keep(0);
        due("none is lost", c.restore(0), 40);
    }

    @Holds(at = "Promise 26", words = "Throws `IndexOutOfBoundsException` if there is no such place")
    static void promise26NoSuchPlace() {
        for (int place : new int[] {-1, 2, LEAST, MOST}) {
            refused("place " + place, Checks::small, INDEX, c -> c.keep(place));
            refused("place " + place + " with both kept", Checks::rich, INDEX, c -> c.keep(place));
        }
    }

    // ---- restore

    @Holds(at = "Promise 27", words = "Makes the catalogue what is kept.")
    static void promise27WhatIsKept() {
        Catalogmend c = guessed();
        c.keep(1);
        String before = Look.entries(c);
        mergeAnew(c);
        c.restore(1);
        due("marks and active ones too", Look.entries(c), before);
        c.confirm(0);
        translate(c, 0, 0, "again");
        c.restore(1);
        due("what is kept does not change", Look.entries(c), before);
    }

    @Holds(at = "Promise 27", words = "Makes the catalogue what is kept.")
    static void promise27OnlyTheCatalogue() {
        Catalogmend c = rich();
        c.restore(0);
        due("messages", c.messages(), 3);
        due("bound", c.setBound(60), 70);
        due("buffer", c.clearText(), 2);
        due("the other place", c.restore(1), 2);
        c.clearTemplate();
        add(c, "cats", 0, true);
        c.merge();
        due("forms", c.slots(0), 3);
    }

    @Holds(at = "Promise 27", words = "- `place`: 0 or 1")
    static void promise27Places() {
        for (int place = -1; place <= 2; place++) {
            int asked = place;
            due("place " + place, thrownBy(() -> rich().restore(asked)),
                    place == 0 || place == 1 ? NOTHING : INDEX);
        }
    }

    @Holds(at = "Promise 27", words = "Returns how many entries it has then.")
    static void promise27FromNoneToForty() {
        Catalogmend c = new Catalogmend();
        c.keep(0);
        mergeAnew(c, "a");
        c.keep(1);
        due("none", c.restore(0), 0);
        due("entries", c.entries() + c.active(), 0);
        due("one", c.restore(1), 1);
        Catalogmend full = MergeSentences.full();
        full.keep(1);
        mergeAnew(full);
        due("obsolete ones only", full.entries(), 28);
        due("forty", full.restore(1), 40);
        due("active ones again", full.active(), 12);
    }

    @Holds(at = "Promise 27", words = "Throws `IndexOutOfBoundsException` if there is no such place")
    static void promise27NoSuchPlace() {
        for (int place : new int[] {-1, 2, LEAST, MOST}) {
            refused("place " + place + " with nothing kept", Checks::small, INDEX, c -> c.restore(place));
            refused("place " + place + " with both kept", Checks::rich, INDEX, c -> c.restore(place));
        }
    }

    @Holds(at = "Promise 27", words = "Throws `IllegalStateException` if nothing is kept there")
    static void promise27NothingIsKeptThere() {
        refused("nothing at 0", Checks::small, STATE, c -> c.restore(0));
        refused("nothing at 1", Checks::small, STATE, c -> c.restore(1));
        refused("nothing at 0, but at 1", () -> keptAt(1), STATE, c -> c.restore(0));
        refused("nothing at 1, but at 0", () -> keptAt(0), STATE, c -> c.restore(1));
        due("kept at 0", keptAt(0).restore(0), 3);
        due("kept at 1", keptAt(1).restore(1), 3);
    }

    private static Catalogmend keptAt(int place) {
        Catalogmend c = small();
        c.keep(place);
        translate(c, 0, 0, "other");
        return c;
    }

    // ---- mergeKept

    /** One entry with these translations in the elder one, there and here; "" is none, "-" the elder's. */
    private static Catalogmend threeWay(String elder, String there, String here) {
        Catalogmend c = new Catalogmend();
        mergeAnew(c, "abcd");
        if (!elder.isEmpty()) {
            translate(c, 0, 0, elder);
        }
        c.keep(0);
        if (!there.equals("-")) {
            translate(c, 0, 0, there);
        }
        c.keep(1);
        c.restore(0);
        if (!here.equals("-")) {
            translate(c, 0, 0, here);
        }
        return c;
    }

    private static void dueThreeWay(String elder, String there, String here, int clashes, String want) {
        Catalogmend c = threeWay(elder, there, here);
        String what = "'" + elder + "', '" + there + "', '" + here + "'";
        due("clashes of " + what, c.mergeKept(), clashes);
        due("merging of " + what, Look.entries(c), "abcd " + want + "; *");
    }

    /** The elder one has "c" and the other one none. */
    private static Catalogmend takenAwayThere() {
        Catalogmend c = new Catalogmend();
        mergeAnew(c, "abcd");
        c.keep(1);
        translate(c, 0, 0, "c");
        c.keep(0);
        return c;
    }

    /** Such an entry that was obsolete here. */
    static Catalogmend obsoleteTakenAway() {
        Catalogmend c = takenAwayThere();
        mergeAnew(c);
        c.mergeKept();
        return c;
    }

    @Holds(at = "Promise 28", words = "Merges the catalogue that is kept at the place 1 into this one")
    static void promise28TheOtherOneIntoThisOne() {
        Catalogmend c = threeWay("c", "b", "-");
        c.mergeKept();
        due("b is here", Look.entries(c), "abcd = b; *");
        c.restore(0);
        due("the elder one stays", Look.entries(c), "abcd = c; *");
        c.restore(1);
        due("the other one stays", Look.entries(c), "abcd = b; *");
    }

    @Holds(at = "Promise 28", words = "against the elder one that is kept at the place 0")
    static void promise28AgainstTheElderOne() {
        dueThreeWay("c", "b", "-", 0, "= b");
        dueThreeWay("c", "-", "a", 0, "= a");
    }

    @Holds(at = "Promise 28",
            words = "For each entry of this one, in order, whose key the other one has, and each slot")
    static void promise28EachSlotByItself() {
        Catalogmend c = new Catalogmend();
        c.setForms(4);
        add(c, "dogs", 1, true);
        add(c, "cats", 1, true);
        c.merge();
        for (int slot = 0; slot < 4; slot++) {
            translate(c, 0, slot, "c");
        }
        c.keep(0);
        translate(c, 0, 0, "b");
        translate(c, 0, 1, "b");
        translate(c, 0, 3, "b");
        translate(c, 1, 2, "b");
        c.keep(1);
        c.restore(0);
        translate(c, 0, 0, "a");
        translate(c, 0, 2, "a");
        translate(c, 0, 3, "a");
        translate(c, 1, 1, "a");
        due("two clashes", c.mergeKept(), 2);
        due("each slot by itself", Look.entries(c), "dogs ? a|b|a|a; cats = |a|b|; *");
        due("a slot without a translation", c.lengthOf(1, 0), 0);
    }

    @Holds(at = "Promise 28", words = "whose key the other one has")
    static void promise28AKeyThatTheOtherOneHasNot() {
        Catalogmend c = new Catalogmend();
        c.keep(1);
        add(c, "abcd", 0, false);
        add(c, "abcd", 1, false);
        c.merge();
        translate(c, 0, 0, "c");
        translate(c, 1, 0, "c");
        c.keep(0);
        translate(c, 0, 0, "a");
        due("no clash", c.mergeKept(), 0);
        due("both stay", Look.entries(c), "abcd = a; abcd = c; *");
    }

    @Holds(at = "Promise 28", words = "whose key the other one has")
    static void promise28ObsoleteEntriesToo() {
        Catalogmend c = threeWay("c", "b", "-");
        mergeAnew(c);
        due("no clash", c.mergeKept(), 0);
        due("obsolete here", Look.entries(c), "* abcd = b; ");
        Catalogmend there = threeWay("c", "b", "a");
        there.restore(1);
        mergeAnew(there);
        there.keep(1);
        mergeAnew(there, "abcd");
        translate(there, 0, 0, "a");
        due("obsolete there", there.mergeKept() + " " + Look.entries(there), "1 abcd ? a; *");
    }

    @Holds(at = "Promise 28", words = "c that of the elder one (none, if that does not have the key)")
    static void promise28AKeyThatTheElderOneHasNot() {
        due("the other one's is taken", notInTheElder(""), "0 abcd = b; *");
        due("the same is kept", notInTheElder("b"), "0 abcd = b; *");
        due("another one is a clash", notInTheElder("a"), "1 abcd ? a; *");
    }

    /** The elder one is empty, and the other one has "b". */
    private static String notInTheElder(String here) {
        Catalogmend c = new Catalogmend();
        c.keep(0);
        mergeAnew(c, "abcd");
        translate(c, 0, 0, "b");
        c.keep(1);
        c.restore(0);
        c.merge();
        if (!here.isEmpty()) {
            translate(c, 0, 0, here);
        }
        return c.mergeKept() + " " + Look.entries(c);
    }

    @Holds(at = "Promise 28", words = "If b is the same as a, or the same as c, a stays.")
    static void promise28BIsTheSame() {
        dueThreeWay("c", "-", "-", 0, "= c");
        dueThreeWay("c", "b", "b", 0, "= b");
        dueThreeWay("c", "-", "a", 0, "= a");
        dueThreeWay("", "-", "-", 0, "= ");
        dueThreeWay("", "b", "b", 0, "= b");
        dueThreeWay("", "-", "a", 0, "= a");
    }

    /** A mark there does not come without a translation that is taken over. */
    @Holds(at = "Promise 28", words = "If b is the same as a, or the same as c, a stays.")
    static void promise28BIsTheSameAndMarkedThere() {
        Catalogmend c = guessed();
        c.keep(1);
        c.confirm(0);
        c.keep(0);
        due("no clash", c.mergeKept(), 0);
        due("no mark", Look.entries(c), "abcdf = x; * abcde ? x; abcd = x; ");
        Catalogmend marked = guessed();
        marked.keep(0);
        marked.confirm(0);
        marked.keep(1);
        marked.restore(0);
        marked.mergeKept();
        due("the mark here stays", marked.isMarked(0), true);
    }

    @Holds(at = "Promise 28", words = "Otherwise, if a is the same as c, b takes its place")
    static void promise28BTakesItsPlace() {
        dueThreeWay("c", "b", "-", 0, "= b");
        dueThreeWay("c", "cc", "-", 0, "= cc");
        dueThreeWay("c", "b", "c", 0, "= b");
        dueThreeWay("", "b", "-", 0, "= b");
    }

    @Holds(at = "Promise 28", words = "and if the entry is marked there, it is marked here")
    static void promise28AMarkComesWithItsTranslation() {
        due("marked there", guessThere(false), "0 abcdf ? x; * abcd = x; ");
        due("not marked there", guessThere(true), "0 abcdf = y; * abcd = x; ");
    }

    /** The other one has a guess, or has translated it anew; this one has an empty slot there. */
    private static String guessThere(boolean isTranslated) {
        Catalogmend c = new Catalogmend();
        mergeAnew(c, "abcd");
        translate(c, 0, 0, "x");
        c.keep(0);
        mergeAnew(c, "abcdf");
        if (isTranslated) {
            translate(c, 0, 0, "y");
        }
        c.keep(1);
        c.restore(0);
        c.setBound(100);
        c.merge();
        return c.mergeKept() + " " + Look.entries(c);
    }

    /** The words tell only how a mark comes. */
    @Holds(at = "Promise 28", words = "and if the entry is marked there, it is marked here")
    static void promise28NoMarkHereIsTakenAway() {
        Catalogmend c = guessed();
        c.keep(0);
        translate(c, 0, 0, "b");
        c.keep(1);
        c.restore(0);
        due("no clash", c.mergeKept(), 0);
        due("b, and the mark here", Look.entries(c), "abcdf ? b; * abcde ? x; abcd = x; ");
    }

    @Holds(at = "Promise 28", words = "Otherwise that is a clash: a stays, and the entry is marked here.")
    static void promise28AClash() {
        dueThreeWay("c", "b", "a", 1, "? a");
        dueThreeWay("c", "bb", "b", 1, "? b");
        dueThreeWay("", "b", "a", 1, "? a");
        Catalogmend c = threeWay("c", "b", "a");
        c.mergeKept();
        c.confirm(0);
        due("the same clash again", c.mergeKept(), 1);
        due("marked again", Look.entries(c), "abcd ? a; *");
    }

    @Holds(at = "Promise 28", words = "Otherwise that is a clash: a stays, and the entry is marked here.")
    static void promise28AClashLeavesOpenSlotsOpen() {
        due("marked and not full", Look.entries(openClash()), "dogs ? a|; *");
        due("its state", openClash().state(0), Catalogmend.OPEN);
    }

    @Holds(at = "Promise 28", words = "(None is the same as none; so a translation may be taken away.)")
    static void promise28ATranslationIsTakenAway() {
        Catalogmend c = takenAwayThere();
        due("no clash", c.mergeKept(), 0);
        due("none, and the entry stays", Look.entries(c), "abcd = ; *");
        due("its state", c.state(0), Catalogmend.OPEN);
        due("the length", c.lengthOf(0, 0), 0);
        due("an obsolete one stays too", obsoleteTakenAway().entries(), 1);
    }

    @Holds(at = "Promise 28", words = "(None is the same as none; so a translation may be taken away.)")
    static void promise28NoneAgainstAnotherIsAClash() {
        Catalogmend c = takenAwayThere();
        translate(c, 0, 0, "a");
        due("taken away there, another one here", c.mergeKept() + " " + Look.entries(c), "1 abcd ? a; *");
    }

    @Holds(at = "Promise 28", words = "(None is the same as none; so a translation may be taken away.)")
    static void promise28NoneIsTheSameAsNone() {
        dueThreeWay("", "-", "-", 0, "= ");
        dueThreeWay("", "-", "a", 0, "= a");
        dueThreeWay("", "b", "-", 0, "= b");
        Catalogmend c = new Catalogmend();
        add(c, "dogs", 0, true);
        c.merge();
        c.keep(0);
        c.keep(1);
        translate(c, 0, 1, "a");
        due("none in the other slot", c.mergeKept() + " " + Look.entries(c), "0 dogs = |a; *");
    }

    @Holds(at = "Promise 28", words = "Entries that this one does not have, but the other one")
    static void promise28OthersAreAddedBehindObsolete() {
        Catalogmend c = new Catalogmend();
        mergeAnew(c, "aaaa", "bbbb");
        translate(c, 0, 0, "a");
        c.keep(0);
        mergeAnew(c, "cccc", "dddd", "aaaa");
        translate(c, 1, 0, "d");
        c.setBound(80);
        mergeAnew(c, "cccc", "aaaab");
        due("the other one", Look.entries(c), "cccc = ; aaaab ? a; * dddd = d; aaaa = a; ");
        c.keep(1);
        c.restore(0);
        due("no clash", c.mergeKept(), 0);
        due("in their order, with their marks", Look.entries(c), "aaaa = a; bbbb = ; * aaaab ? a; dddd = d; ");
        due("a second time", c.mergeKept(), 0);
        due("none is added twice", c.entries(), 4);
    }

    @Holds(at = "Promise 28", words = "whether the elder one has them or not")
    static void promise28OthersThatTheElderOneHas() {
        Catalogmend elder = new Catalogmend();
        mergeAnew(elder, "aaaa");
        elder.keep(0);
        translate(elder, 0, 0, "a");
        elder.keep(1);
        elder.restore(0);
        mergeAnew(elder, "bbbb");
        due("the elder one has it", elder.mergeKept() + " " + Look.entries(elder), "0 bbbb = ; * aaaa = a; ");

        Catalogmend other = new Catalogmend();
        other.keep(0);
        mergeAnew(other, "aaaa");
        translate(other, 0, 0, "a");
        other.keep(1);
        other.restore(0);
        mergeAnew(other, "bbbb");
        due("it has not", other.mergeKept() + " " + Look.entries(other), "0 bbbb = ; * aaaa = a; ");
    }

    @Holds(at = "Promise 28", words = "if they have some translation")
    static void promise28OthersWithSomeTranslation() {
        Catalogmend c = new Catalogmend();
        c.setForms(4);
        c.keep(0);
        add(c, "aaaa", 0, false);
        add(c, "bbbb", 1, false);
        add(c, "aaaa", 0, true);
        add(c, "bbbb", 0, true);
        c.merge();
        translate(c, 0, 0, "a");
        translate(c, 2, 3, "last");
        c.keep(1);
        c.restore(0);
        due("no clash", c.mergeKept(), 0);
        due("one of four is some", Look.entries(c), "* aaaa = a; aaaa = |||last; ");
    }

    @Holds(at = "Promise 28", words = "Returns how many clashes there are.")
    static void promise28FromNoneToMany() {
        due("none", threeWay("c", "b", "-").mergeKept(), 0);
        due("one", threeWay("c", "b", "a").mergeKept(), 1);
        Catalogmend c = new Catalogmend();
        c.setForms(4);
        put(c, "q");
        addKeys(c, 8);
        c.merge();
        c.keep(0);
        translateAll(c, "b");
        c.keep(1);
        translateAll(c, "a");
        due("each slot is one", c.mergeKept(), 20);
        due("each entry is marked", c.count(Catalogmend.GUESSED), 8);
        due("they are none of the next", c.mergeKept(), 20);
    }

    private static void translateAll(Catalogmend c, String text) {
        put(c, text);
        for (int entry = 0; entry < 8; entry++) {
            int slots = entry >= 4 ? 4 : 1;
            for (int slot = 0; slot < slots; slot++) {
                c.translate(entry, slot);
            }
        }
    }

    @Holds(at = "Promise 28", words = "Throws `IllegalStateException` if nothing is kept at one of both places")
    static void promise28NothingIsKept() {
        refused("nothing at both", Checks::small, STATE, Catalogmend::mergeKept);
        refused("nothing at 0", () -> keptAt(1), STATE, Catalogmend::mergeKept);
        refused("nothing at 1", () -> keptAt(0), STATE, Catalogmend::mergeKept);
        Catalogmend both = keptAt(0);
        both.keep(1);
        due("kept at both", both.mergeKept(), 0);
        Catalogmend empty = new Catalogmend();
        empty.keep(0);
        empty.keep(1);
        due("both without entries", empty.mergeKept(), 0);
    }

    @Holds(at = "Promise 28", words = "or the catalogue would have more than 40 entries")
    static void promise28FortyAndFortyOne() {
        Catalogmend c = fiveAgainst(35);
        due("5 and 35", c.mergeKept(), 0);
        due("40 entries", c.entries(), 40);
        due("5 active", c.active(), 5);
        due("a second time adds none", c.mergeKept() + " " + c.entries(), "0 40");
        refused("5 and 36", () -> fiveAgainst(36), STATE, Catalogmend::mergeKept);
    }

    /** Five entries here, so many others at the place 1, and none in the elder one. */
    private static Catalogmend fiveAgainst(int others) {
        Catalogmend c = new Catalogmend();
        c.keep(0);
        fill(c, others);
        c.keep(1);
        c.restore(0);
        mergeAnew(c, "v", "w", "x", "y", "z");
        return c;
    }

    @Holds(at = "Promise 28", words = "or the catalogue would have more than 40 entries")
    static void promise28OthersWithoutTranslationAreNotCounted() {
        Catalogmend c = new Catalogmend();
        c.keep(0);
        fill(c, 35);
        mergeAnew(c, "open");
        c.keep(1);
        c.restore(0);
        mergeAnew(c, "v", "w", "x", "y", "z");
        due("36 others, one of them open", c.mergeKept(), 0);
        due("40 entries", c.entries(), 40);
    }

    @Holds(at = "Promise 28", words = "or the catalogue would have more than 40 entries")
    static void promise28EntriesOfBothAreNotCountedTwice() {
        Catalogmend c = large(40);
        c.keep(0);
        c.keep(1);
        due("40 and the same 40", c.mergeKept(), 0);
        due("40 entries", c.entries(), 40);
    }

    /** A refused merging leaves no mark, and takes no translation over. */
    @Holds(at = "Promise 28", words = "or the catalogue would have more than 40 entries")
    static void promise28ARefusedMergingWithAClash() {
        Supplier<Catalogmend> more = () -> {
            Catalogmend c = new Catalogmend();
            c.keep(0);
            fill(c, 38);
            c.keep(1);
            c.restore(0);
            mergeAnew(c, "a", "b", "v", "w", "x");
            translate(c, 0, 0, "other");
            return c;
        };
        refused("5 and 36 others, and a clash", more, STATE, Catalogmend::mergeKept);
        due("no mark", more.get().isMarked(0), false);
    }
}
