import java.util.function.Supplier;

/** One method for each promise of the document: ordinary inputs, the edges, and wrong inputs. */
public final class CatalogmendTest {
    private static final Checks CHECKS = Checks.begin();
    private static final String TWENTY = "abcdefghij klmnop 12";

    public static void main(String[] args) {
        newObject();
        type();
        clearText();
        clearTemplate();
        addMessage();
        messages();
        setForms();
        setBound();
        merge();
        mergeGuesses();
        mergeLimit();
        entriesAndActive();
        find();
        translate();
        confirm();
        state();
        isMarked();
        slots();
        textAt();
        translationAt();
        lengthOf();
        fault();
        count();
        likeness();
        guess();
        guessTies();
        keepAndRestore();
        mergeKept();
        mergeKeptSlots();
        mergeKeptMarks();
        mergeKeptForeign();
        mergeKeptLimit();
        System.exit(CHECKS.end());
    }

    private static void due(String what, long got, long want) {
        CHECKS.due(what, got, want);
    }

    private static void due(String what, boolean got, boolean want) {
        CHECKS.due(what, got, want);
    }

    private static void due(String what, String got, String want) {
        CHECKS.due(what, got, want);
    }

    /** One entry that is done, one that is plural and half done, an obsolete one; "xy" in the buffer. */
    private static Catalogmend small() {
        Catalogmend c = new Catalogmend();
        Checks.mergeAnew(c, "old 1");
        Checks.translate(c, 0, 0, "alt 1");
        c.clearTemplate();
        Checks.add(c, "file 1", 2, false);
        Checks.add(c, "dogs", 3, true);
        c.merge();
        Checks.translate(c, 0, 0, "datei 1");
        Checks.translate(c, 1, 1, "hunde");
        Checks.put(c, "xy");
        return c;
    }

    private static Catalogmend large(int entries) {
        Catalogmend c = new Catalogmend();
        fill(c, entries);
        return c;
    }

    /** Makes so many entries in an empty catalogue, all done; eight each have the same letter. */
    private static void fill(Catalogmend c, int entries) {
        c.setBound(100);
        for (int done = 0; done < entries; done += 8) {
            int now = Math.min(8, entries - done);
            c.clearTemplate();
            Checks.put(c, "" + (char) ('a' + done / 8));
            for (int message = 0; message < now; message++) {
                c.addMessage(message % 4, message >= 4);
            }
            c.merge();
            for (int message = 0; message < now; message++) {
                c.translate(message, 0);
                if (message >= 4) {
                    c.translate(message, 1);
                }
            }
        }
    }

    private static void newObject() {
        Catalogmend c = new Catalogmend();
        due("entries of a new one", c.entries(), 0);
        due("active of a new one", c.active(), 0);
        due("messages of a new one", c.messages(), 0);
        due("find in a new one", c.find(0, false), Catalogmend.NONE);
        for (int state = 0; state < 3; state++) {
            due("count in a new one", c.count(state), 0);
        }
        due("a new one's mergeKept", Checks.answer(c::mergeKept), Checks.STATE);
        due("a new one's restore(0)", Checks.answer(() -> c.restore(0)), Checks.STATE);
        due("a new one's restore(1)", Checks.answer(() -> c.restore(1)), Checks.STATE);
        due("forms at first", c.setForms(2), 2);
        due("bound at first", c.setBound(60), 60);
        due("buffer at first", c.clearText(), 0);
        due("template at first", c.clearTemplate(), 0);
        due("NONE", Catalogmend.NONE, -1);
        due("OPEN", Catalogmend.OPEN, 0);
        due("GUESSED", Catalogmend.GUESSED, 1);
        due("DONE", Catalogmend.DONE, 2);
        due("two objects share nothing", new Catalogmend().type('a') + new Catalogmend().type('b'), 2);
    }

    private static void type() {
        for (int sign = 0; sign < 300; sign++) {
            char character = (char) sign;
            boolean good = "abcdefghijklmnopqrstuvwxyz 123".indexOf(character) >= 0;
            String answer = Checks.answer(() -> new Catalogmend().type(character));
            due("type of the sign " + sign, answer, good ? "1" : Checks.ARGUMENT);
        }
        due("type of the last sign", Checks.answer(() -> new Catalogmend().type((char) 65535)), Checks.ARGUMENT);
        Catalogmend c = new Catalogmend();
        for (int place = 0; place < 20; place++) {
            due("type", c.type(TWENTY.charAt(place)), place + 1);
        }
        due("the 21st character", Checks.answer(() -> c.type('a')), Checks.STATE);
        due("a wrong 21st character", Checks.answer(() -> c.type('4')), Checks.ARGUMENT);
        c.addMessage(0, false);
        c.merge();
        due("what was typed", Checks.text(c, 0, 25), TWENTY);
        Supplier<Catalogmend> full = () -> {
            Catalogmend made = small();
            Checks.put(made, TWENTY);
            return made;
        };
        CHECKS.refused("type behind 20", full, Checks.STATE, x -> x.type('a'));
        CHECKS.refused("type of A", CatalogmendTest::small, Checks.ARGUMENT, x -> x.type('A'));
    }

    private static void clearText() {
        Catalogmend c = new Catalogmend();
        Checks.put(c, "abc");
        due("clearText", c.clearText(), 3);
        due("clearText of an empty buffer", c.clearText(), 0);
        Checks.put(c, TWENTY);
        due("clearText of a full buffer", c.clearText(), 20);
        due("type behind clearText", c.type('q'), 1);
        c.addMessage(0, false);
        c.merge();
        c.translate(0, 0);
        c.find(0, false);
        c.guess(0, false);
        c.guessByAll(0, false);
        c.keep(0);
        c.keep(1);
        c.mergeKept();
        c.restore(0);
        c.clearTemplate();
        due("only type changes the buffer", c.clearText(), 1);
    }

    private static void clearTemplate() {
        Catalogmend c = small();
        due("clearTemplate", c.clearTemplate(), 2);
        due("messages behind clearTemplate", c.messages(), 0);
        due("clearTemplate again", c.clearTemplate(), 0);
        due("clearTemplate leaves the entries", Checks.entries(c),
                "file 1 = datei 1; dogs = |hunde; * old 1 = alt 1; ");
        due("a message comes back", Checks.add(c, "dogs", 3, true), 1);
        c.merge();
        due("only that one is merged", Checks.entries(c),
                "dogs = |hunde; * file 1 = datei 1; old 1 = alt 1; ");
    }

    private static void addMessage() {
        Catalogmend c = new Catalogmend();
        Checks.put(c, "a");
        int added = 0;
        for (int context = 0; context < 4; context++) {
            due("addMessage", c.addMessage(context, false), ++added);
            due("addMessage, plural", c.addMessage(context, true), ++added);
        }
        due("the same key", Checks.answer(() -> c.addMessage(3, true)), Checks.STATE);
        c.type('b');
        due("a longer text", c.addMessage(0, false), 9);
        due("the buffer stays", c.type('c'), 3);
        due("messages", c.addMessage(0, false), 10);
        c.addMessage(1, false);
        due("the twelfth", c.addMessage(2, false), 12);
        due("the thirteenth", Checks.answer(() -> c.addMessage(3, false)), Checks.STATE);
        due("messages behind the thirteenth", c.messages(), 12);
        due("wrong context in a full template", Checks.answer(() -> c.addMessage(4, false)), Checks.ARGUMENT);
        c.merge();
        due("in their order", Checks.text(c, 8, 20) + Checks.text(c, 9, 20), "ababc");
        CHECKS.refused("context 4", CatalogmendTest::small, Checks.ARGUMENT, x -> x.addMessage(4, false));
        CHECKS.refused("context -1", CatalogmendTest::small, Checks.ARGUMENT, x -> x.addMessage(-1, true));
        Supplier<Catalogmend> empty = () -> {
            Catalogmend made = small();
            made.clearText();
            return made;
        };
        CHECKS.refused("an empty text", empty, Checks.STATE, x -> x.addMessage(0, false));
        CHECKS.refused("an empty text, wrong context", empty, Checks.ARGUMENT, x -> x.addMessage(-2, false));
        Supplier<Catalogmend> same = () -> {
            Catalogmend made = small();
            Checks.put(made, "dogs");
            return made;
        };
        CHECKS.refused("the same key", same, Checks.STATE, x -> x.addMessage(3, true));
        CHECKS.refused("an entry's key is no message's", CatalogmendTest::old, Checks.NOTHING, x -> x.find(0, false));
        due("a key of an obsolete entry", old().addMessage(0, false), 3);
    }

    private static Catalogmend old() {
        Catalogmend c = small();
        Checks.put(c, "old 1");
        return c;
    }

    private static void messages() {
        Catalogmend c = new Catalogmend();
        due("no messages", c.messages(), 0);
        Checks.add(c, "a", 0, false);
        due("one message", c.messages(), 1);
        Checks.add(c, "b", 0, false);
        due("two messages", c.messages(), 2);
        c.merge();
        due("messages behind a merge", c.messages(), 2);
        c.clearTemplate();
        due("messages behind clearTemplate", c.messages(), 0);
        due("messages are not entries", c.entries(), 2);
    }

    private static void setForms() {
        Catalogmend c = new Catalogmend();
        due("forms 1", c.setForms(1), 2);
        due("forms 4", c.setForms(4), 1);
        due("forms 3", c.setForms(3), 4);
        due("forms 0", Checks.answer(() -> c.setForms(0)), Checks.ARGUMENT);
        due("forms 5", Checks.answer(() -> c.setForms(5)), Checks.ARGUMENT);
        Checks.add(c, "a", 0, true);
        due("forms with a template", c.setForms(3), 3);
        c.merge();
        due("slots", c.slots(0), 3);
        due("forms with entries", Checks.answer(() -> c.setForms(2)), Checks.STATE);
        due("wrong forms with entries", Checks.answer(() -> c.setForms(5)), Checks.ARGUMENT);
        c.clearTemplate();
        c.merge();
        due("forms with entries gone", c.setForms(4), 3);
        for (int place = 0; place < 2; place++) {
            Catalogmend kept = new Catalogmend();
            kept.keep(place);
            due("forms with something kept", Checks.answer(() -> kept.setForms(2)), Checks.STATE);
            due("wrong forms with something kept", Checks.answer(() -> kept.setForms(0)), Checks.ARGUMENT);
        }
        CHECKS.refused("forms with entries", CatalogmendTest::small, Checks.STATE, x -> x.setForms(3));
        CHECKS.refused("forms 0", Catalogmend::new, Checks.ARGUMENT, x -> x.setForms(0));
        CHECKS.refused("forms 5", Catalogmend::new, Checks.ARGUMENT, x -> x.setForms(5));
        for (int forms = 1; forms <= 4; forms++) {
            Catalogmend each = new Catalogmend();
            each.setForms(forms);
            Checks.add(each, "a", 0, true);
            Checks.add(each, "a", 0, false);
            each.merge();
            due("slots of a plural one", each.slots(0), forms);
            due("slots of another", each.slots(1), 1);
        }
    }

    private static void setBound() {
        Catalogmend c = new Catalogmend();
        due("bound 1", c.setBound(1), 60);
        due("bound 100", c.setBound(100), 1);
        due("bound 0", Checks.answer(() -> c.setBound(0)), Checks.ARGUMENT);
        due("bound 101", Checks.answer(() -> c.setBound(101)), Checks.ARGUMENT);
        due("bound behind wrong ones", c.setBound(60), 100);
        CHECKS.refused("bound -1", CatalogmendTest::small, Checks.ARGUMENT, x -> x.setBound(-1));
        Catalogmend bounded = new Catalogmend();
        Checks.mergeAnew(bounded, "abcde");
        Checks.translate(bounded, 0, 0, "x");
        Checks.put(bounded, "abcyz");
        due("a guess at the bound", bounded.guess(0, false), 0);
        bounded.setBound(61);
        due("no guess below the bound", bounded.guess(0, false), -1);
        due("merge keeps to the bound", Checks.mergeAnew(bounded, "abcyz"), 0);
        bounded.setBound(60);
        due("merge at the bound", Checks.mergeAnew(bounded, "abcxx"), 1);
    }

    private static void merge() {
        Catalogmend c = new Catalogmend();
        due("merge of nothing", c.merge(), 0);
        Checks.mergeAnew(c, "aaaa", "bbbb", "cccc");
        due("new ones", Checks.entries(c), "aaaa = ; bbbb = ; cccc = ; *");
        Checks.translate(c, 0, 0, "x");
        Checks.translate(c, 2, 0, "z");
        due("merge of the same", c.merge(), 0);
        due("nothing changes", Checks.entries(c), "aaaa = x; bbbb = ; cccc = z; *");
        due("merge of others", Checks.mergeAnew(c, "dddd"), 0);
        due("open ones go", Checks.entries(c), "dddd = ; * aaaa = x; cccc = z; ");
        Checks.mergeAnew(c, "cccc", "bbbb", "dddd");
        due("obsolete ones come back", Checks.entries(c), "cccc = z; bbbb = ; dddd = ; * aaaa = x; ");
        Checks.translate(c, 1, 0, "y");
        Checks.mergeAnew(c, "eeee");
        due("obsolete ones keep their order", Checks.entries(c), "eeee = ; * cccc = z; bbbb = y; aaaa = x; ");
        Checks.mergeAnew(c);
        due("an empty template", Checks.entries(c), "* cccc = z; bbbb = y; aaaa = x; ");
        Checks.mergeAnew(c, "aaaa", "cccc");
        due("the order is the template's", Checks.entries(c), "aaaa = x; cccc = z; * bbbb = y; ");
        Catalogmend half = small();
        half.clearTemplate();
        half.merge();
        due("an entry with one of its slots stays", Checks.entries(half),
                "* file 1 = datei 1; dogs = |hunde; old 1 = alt 1; ");
    }

    private static void mergeGuesses() {
        Catalogmend c = new Catalogmend();
        Checks.mergeAnew(c, "open 1");
        Checks.translate(c, 0, 0, "auf 1");
        due("two guesses", Checks.mergeAnew(c, "opens 1", "opened 1", "close 1"), 2);
        due("they are marked", Checks.entries(c),
                "opens 1 ? auf 1; opened 1 ? auf 1; close 1 = ; * open 1 = auf 1; ");
        due("a mark stays", Checks.mergeAnew(c, "opened 1"), 0);
        due("obsolete ones keep it", Checks.entries(c),
                "opened 1 ? auf 1; * opens 1 ? auf 1; open 1 = auf 1; ");
        due("it comes back with it", Checks.mergeAnew(c, "opens 1"), 0);
        due("brought back", Checks.entries(c), "opens 1 ? auf 1; * opened 1 ? auf 1; open 1 = auf 1; ");
        due("another context is another key", contextGuess(), "open 1 ? auf 1; * open 1 = auf 1; ");

        Catalogmend ahead = new Catalogmend();
        Checks.mergeAnew(ahead, "abcdefghij");
        Checks.translate(ahead, 0, 0, "x");
        due("guesses are found ahead", Checks.mergeAnew(ahead, "abcdefgxyz", "abcdexxxyz"), 1);
        due("no guess from a new one", Checks.entries(ahead),
                "abcdefgxyz ? x; abcdexxxyz = ; * abcdefghij = x; ");

        Catalogmend plural = new Catalogmend();
        Checks.add(plural, "dogs 1", 0, true);
        plural.merge();
        Checks.translate(plural, 0, 0, "hund");
        Checks.add(plural, "dogs 12", 0, true);
        due("no guess from one that is not full", plural.merge(), 0);
        Checks.translate(plural, 0, 1, "hunde");
        plural.clearTemplate();
        Checks.add(plural, "dogs 1", 0, false);
        Checks.add(plural, "dogs 3", 0, true);
        due("plural by plural", plural.merge(), 1);
        due("all slots are guessed", Checks.entries(plural),
                "dogs 1 = ; dogs 3 ? hund|hunde; * dogs 1 = hund|hunde; ");
    }

    private static String contextGuess() {
        Catalogmend c = new Catalogmend();
        Checks.mergeAnew(c, "open 1");
        Checks.translate(c, 0, 0, "auf 1");
        c.clearTemplate();
        Checks.add(c, "open 1", 2, false);
        due("a guess for another context", c.merge(), 1);
        return Checks.entries(c);
    }

    private static void mergeLimit() {
        Catalogmend c = large(39);
        due("39 entries", c.entries(), 39);
        Checks.mergeAnew(c, "zz");
        due("40 entries", c.entries(), 40);
        due("one of them active", c.active(), 1);
        Checks.mergeAnew(c, "zy");
        due("an open one makes room", c.entries(), 40);
        c.clearTemplate();
        Checks.add(c, "zx", 0, false);
        Checks.add(c, "zw", 0, false);
        due("41 entries", Checks.answer(c::merge), Checks.STATE);
        due("40 stay", c.entries(), 40);
        due("the active one stays", Checks.text(c, 0, 4), "zy");
        Supplier<Catalogmend> full = () -> {
            Catalogmend made = large(40);
            made.clearTemplate();
            Checks.add(made, "zz", 0, false);
            return made;
        };
        CHECKS.refused("merge beyond 40", full, Checks.STATE, Catalogmend::merge);
        Catalogmend same = large(40);
        due("40 again", same.merge(), 0);
        due("40 still", same.entries(), 40);
    }

    private static void entriesAndActive() {
        Catalogmend c = small();
        due("entries", c.entries(), 3);
        due("active", c.active(), 2);
        c.clearTemplate();
        due("entries without a merge", c.entries(), 3);
        due("active without a merge", c.active(), 2);
        c.merge();
        due("entries behind it", c.entries(), 3);
        due("active behind it", c.active(), 0);
    }

    private static void find() {
        Catalogmend c = small();
        due("no entry with the buffer's text", c.find(0, false), -1);
        Checks.put(c, "dogs");
        due("find", c.find(3, true), 1);
        due("another context", c.find(2, true), -1);
        due("not plural", c.find(3, false), -1);
        Checks.put(c, "file 1");
        due("find the first", c.find(2, false), 0);
        Checks.put(c, "old 1");
        due("find an obsolete one", c.find(0, false), 2);
        Checks.put(c, "old 1 ");
        due("a space behind counts", c.find(0, false), -1);
        c.clearText();
        due("an empty buffer", c.find(0, false), -1);
        for (int context = 0; context < 4; context++) {
            due("an empty buffer", c.find(context, true), -1);
        }
        CHECKS.refused("find -1", CatalogmendTest::small, Checks.ARGUMENT, x -> x.find(-1, false));
        CHECKS.refused("find 4", CatalogmendTest::small, Checks.ARGUMENT, x -> x.find(4, true));
        CHECKS.refused("find", CatalogmendTest::old, Checks.NOTHING, x -> x.find(0, false));
    }

    private static void translate() {
        Catalogmend c = new Catalogmend();
        c.setForms(3);
        Checks.add(c, "dogs", 0, true);
        Checks.add(c, "cat", 0, false);
        c.merge();
        due("the last slot", Checks.translate(c, 0, 2, "c"), 2);
        due("the same slot", Checks.translate(c, 0, 2, "cc"), 2);
        due("the first slot", Checks.translate(c, 0, 0, "a"), 1);
        due("the second slot", Checks.translate(c, 0, 1, "b"), 0);
        due("over a translation", Checks.translate(c, 0, 1, TWENTY), 0);
        due("the other entry", Checks.translate(c, 1, 0, "k"), 0);
        due("translated", Checks.entries(c), "dogs = a|" + TWENTY + "|cc; cat = k; *");
        c.type('x');
        due("a translation is not the buffer", Checks.entries(c), "dogs = a|" + TWENTY + "|cc; cat = k; *");
        Checks.mergeAnew(c, "cats");
        due("marked", c.isMarked(0), true);
        due("a guess is translated", Checks.translate(c, 0, 0, "kk"), 0);
        due("the mark is gone", c.isMarked(0), false);
        due("the guess's entry stays", Checks.entries(c), "cats = kk; * dogs = a|" + TWENTY + "|cc; cat = k; ");
        Supplier<Catalogmend> made = CatalogmendTest::small;
        CHECKS.refused("entry -1", made, Checks.INDEX, x -> x.translate(-1, 0));
        CHECKS.refused("entry 3", made, Checks.INDEX, x -> x.translate(3, 0));
        CHECKS.refused("slot -1", made, Checks.INDEX, x -> x.translate(0, -1));
        CHECKS.refused("slot 1", made, Checks.INDEX, x -> x.translate(0, 1));
        CHECKS.refused("slot 2 of a plural one", made, Checks.INDEX, x -> x.translate(1, 2));
        CHECKS.refused("an obsolete one", made, Checks.STATE, x -> x.translate(2, 0));
        CHECKS.refused("an obsolete one's slot 1", made, Checks.INDEX, x -> x.translate(2, 1));
        Supplier<Catalogmend> empty = () -> {
            Catalogmend emptied = small();
            emptied.clearText();
            return emptied;
        };
        CHECKS.refused("an empty buffer", empty, Checks.STATE, x -> x.translate(1, 0));
        CHECKS.refused("an empty buffer, slot 1", empty, Checks.INDEX, x -> x.translate(0, 1));
        CHECKS.refused("an empty buffer, entry 3", empty, Checks.INDEX, x -> x.translate(3, 0));
    }

    /** A guess that is active, and one that is obsolete. */
    private static Catalogmend guessed() {
        Catalogmend c = new Catalogmend();
        Checks.mergeAnew(c, "abcd");
        Checks.translate(c, 0, 0, "x");
        Checks.mergeAnew(c, "abcde");
        Checks.mergeAnew(c, "abcdf");
        return c;
    }

    private static void confirm() {
        Catalogmend c = guessed();
        due("guesses", Checks.entries(c), "abcdf ? x; * abcde ? x; abcd = x; ");
        c.confirm(1);
        due("an obsolete one is confirmed", Checks.entries(c), "abcdf ? x; * abcde = x; abcd = x; ");
        c.confirm(0);
        due("both are confirmed", Checks.entries(c), "abcdf = x; * abcde = x; abcd = x; ");
        due("twice", Checks.thrownBy(() -> c.confirm(0)), Checks.STATE);
        CHECKS.refused("confirm an unmarked one", CatalogmendTest::guessed, Checks.STATE, x -> x.confirm(2));
        CHECKS.refused("confirm -1", CatalogmendTest::guessed, Checks.INDEX, x -> x.confirm(-1));
        CHECKS.refused("confirm 3", CatalogmendTest::guessed, Checks.INDEX, x -> x.confirm(3));
    }

    private static void state() {
        Catalogmend c = small();
        due("done", c.state(0), Catalogmend.DONE);
        due("half done", c.state(1), Catalogmend.OPEN);
        due("obsolete and done", c.state(2), Catalogmend.DONE);
        Checks.translate(c, 1, 0, "hund");
        due("full", c.state(1), Catalogmend.DONE);
        Catalogmend g = guessed();
        due("guessed", g.state(0), Catalogmend.GUESSED);
        due("obsolete and guessed", g.state(1), Catalogmend.GUESSED);
        g.confirm(0);
        due("confirmed", g.state(0), Catalogmend.DONE);
        Catalogmend marked = openClash();
        due("marked and not full", marked.state(0), Catalogmend.OPEN);
        due("marked all the same", marked.isMarked(0), true);
        CHECKS.refused("state -1", CatalogmendTest::small, Checks.INDEX, x -> x.state(-1));
        CHECKS.refused("state 3", CatalogmendTest::small, Checks.INDEX, x -> x.state(3));
    }

    /** A plural entry that is marked for a clash, and not full. */
    private static Catalogmend openClash() {
        Catalogmend c = new Catalogmend();
        Checks.add(c, "dogs", 0, true);
        c.merge();
        c.keep(0);
        Checks.translate(c, 0, 0, "b");
        c.keep(1);
        Checks.translate(c, 0, 0, "a");
        c.mergeKept();
        return c;
    }

    private static void isMarked() {
        Catalogmend c = guessed();
        due("marked", c.isMarked(0), true);
        due("marked and obsolete", c.isMarked(1), true);
        due("not marked", c.isMarked(2), false);
        CHECKS.refused("isMarked -1", CatalogmendTest::guessed, Checks.INDEX, x -> x.isMarked(-1));
        CHECKS.refused("isMarked 3", CatalogmendTest::guessed, Checks.INDEX, x -> x.isMarked(3));
    }

    private static void slots() {
        Catalogmend c = small();
        due("slots", c.slots(0), 1);
        due("slots of a plural one", c.slots(1), 2);
        due("slots of an obsolete one", c.slots(2), 1);
        CHECKS.refused("slots -1", CatalogmendTest::small, Checks.INDEX, x -> x.slots(-1));
        CHECKS.refused("slots 3", CatalogmendTest::small, Checks.INDEX, x -> x.slots(3));
    }

    private static void textAt() {
        Catalogmend c = new Catalogmend();
        Checks.mergeAnew(c, TWENTY, " a");
        for (int place = 0; place < 20; place++) {
            due("textAt", c.textAt(0, place), TWENTY.charAt(place));
        }
        due("behind the last one", c.textAt(0, 20), ' ');
        due("far behind", c.textAt(0, Integer.MAX_VALUE), ' ');
        due("a space ahead", Checks.text(c, 1, 4), " a");
        due("an obsolete one", Checks.text(small(), 2, 9), "old 1");
        CHECKS.refused("place -1", CatalogmendTest::small, Checks.INDEX, x -> x.textAt(0, -1));
        CHECKS.refused("the least place", CatalogmendTest::small, Checks.INDEX,
                x -> x.textAt(0, Integer.MIN_VALUE));
        CHECKS.refused("entry -1", CatalogmendTest::small, Checks.INDEX, x -> x.textAt(-1, 0));
        CHECKS.refused("entry 3", CatalogmendTest::small, Checks.INDEX, x -> x.textAt(3, 0));
    }

    private static void translationAt() {
        Catalogmend c = small();
        Checks.translate(c, 1, 0, TWENTY);
        for (int place = 0; place < 20; place++) {
            due("translationAt", c.translationAt(1, 0, place), TWENTY.charAt(place));
        }
        due("behind the last one", c.translationAt(1, 0, 20), ' ');
        due("far behind", c.translationAt(1, 0, Integer.MAX_VALUE), ' ');
        due("the other slot", c.translationAt(1, 1, 0), 'h');
        due("an obsolete one", c.translationAt(2, 0, 4), '1');
        due("no translation", small().translationAt(1, 0, 0), ' ');
        due("no translation, far behind", small().translationAt(1, 0, 99), ' ');
        Supplier<Catalogmend> made = CatalogmendTest::small;
        CHECKS.refused("place -1", made, Checks.INDEX, x -> x.translationAt(0, 0, -1));
        CHECKS.refused("place -1 of none", made, Checks.INDEX, x -> x.translationAt(1, 0, -1));
        CHECKS.refused("slot -1", made, Checks.INDEX, x -> x.translationAt(0, -1, 0));
        CHECKS.refused("slot 1", made, Checks.INDEX, x -> x.translationAt(0, 1, 0));
        CHECKS.refused("slot 2", made, Checks.INDEX, x -> x.translationAt(1, 2, 0));
        CHECKS.refused("entry -1", made, Checks.INDEX, x -> x.translationAt(-1, 0, 0));
        CHECKS.refused("entry 3", made, Checks.INDEX, x -> x.translationAt(3, 0, 0));
    }

    private static void lengthOf() {
        Catalogmend c = small();
        due("lengthOf", c.lengthOf(0, 0), 7);
        due("lengthOf none", c.lengthOf(1, 0), 0);
        due("lengthOf the second slot", c.lengthOf(1, 1), 5);
        due("lengthOf an obsolete one", c.lengthOf(2, 0), 5);
        Checks.translate(c, 0, 0, " a ");
        due("spaces count", c.lengthOf(0, 0), 3);
        Checks.translate(c, 0, 0, TWENTY);
        due("the longest", c.lengthOf(0, 0), 20);
        Supplier<Catalogmend> made = CatalogmendTest::small;
        CHECKS.refused("slot -1", made, Checks.INDEX, x -> x.lengthOf(0, -1));
        CHECKS.refused("slot 1", made, Checks.INDEX, x -> x.lengthOf(0, 1));
        CHECKS.refused("slot 2", made, Checks.INDEX, x -> x.lengthOf(1, 2));
        CHECKS.refused("entry -1", made, Checks.INDEX, x -> x.lengthOf(-1, 0));
        CHECKS.refused("entry 3", made, Checks.INDEX, x -> x.lengthOf(3, 0));
    }

    private static int faultOf(String text, String translation) {
        Catalogmend c = new Catalogmend();
        Checks.mergeAnew(c, text);
        Checks.translate(c, 0, 0, translation);
        return c.fault(0);
    }

    private static void fault() {
        due("no digits", faultOf("abc", "x"), 0);
        due("the same digits", faultOf("a 1 b 2", "1x2"), 0);
        due("another order", faultOf("a 1 b 2", "2 1"), 1);
        due("one is missing", faultOf("a 1 b 2", "1"), 2);
        due("one too many", faultOf("a 1", "1 1"), 2);
        due("one too many behind none", faultOf("a", "3"), 2);
        due("another one", faultOf("a 1", "2"), 2);
        due("as many, but others", faultOf("113", "131"), 1);
        due("as many in all, others each", faultOf("22", "13"), 2);
        due("each as often", faultOf("1123", "2113"), 1);
        due("not each as often", faultOf("1123", "1223"), 2);
        due("twenty", faultOf("12312312312312312312", "12312312312312312312"), 0);
        due("twenty, the first ones exchanged", faultOf("12312312312312312312", "21312312312312312312"), 1);
        due("twenty of one", faultOf("33333333333333333333", "3333333333333333333"), 2);
        due("letters apart", faultOf("ab1cd", "wxyz 1"), 0);
        Catalogmend c = new Catalogmend();
        c.setForms(3);
        Checks.add(c, "1 and 2", 0, true);
        c.merge();
        due("no translation", c.fault(0), 0);
        Checks.translate(c, 0, 1, "2 1");
        due("the slot in the middle", c.fault(0), 1);
        Checks.translate(c, 0, 2, "1 2");
        due("a good one behind it", c.fault(0), 1);
        Checks.translate(c, 0, 0, "1");
        due("a worse one ahead of it", c.fault(0), 2);
        Checks.translate(c, 0, 0, "1 2");
        Checks.translate(c, 0, 2, "12 1");
        due("a worse one behind it", c.fault(0), 2);
        due("an obsolete one", small().fault(2), 0);
        CHECKS.refused("fault -1", CatalogmendTest::small, Checks.INDEX, x -> x.fault(-1));
        CHECKS.refused("fault 3", CatalogmendTest::small, Checks.INDEX, x -> x.fault(3));
    }

    private static void count() {
        Catalogmend c = new Catalogmend();
        Checks.mergeAnew(c, "abcd", "mnop", "wxyz");
        Checks.translate(c, 0, 0, "x");
        Checks.translate(c, 1, 0, "y");
        due("open", c.count(Catalogmend.OPEN), 1);
        due("done", c.count(Catalogmend.DONE), 2);
        due("guessed", c.count(Catalogmend.GUESSED), 0);
        Checks.mergeAnew(c, "mnop", "abcde", "abcdf", "qqqq", "rrrr", "ssss");
        due("open", c.count(0), 3);
        due("guessed", c.count(1), 2);
        due("done, not the obsolete one", c.count(2), 1);
        Checks.mergeAnew(c);
        due("none is active", c.count(0) + c.count(1) + c.count(2), 0);
        due("a clash that is open", openClash().count(0), 1);
        due("is no guess", openClash().count(1), 0);
        CHECKS.refused("count -1", CatalogmendTest::small, Checks.ARGUMENT, x -> x.count(-1));
        CHECKS.refused("count 3", CatalogmendTest::small, Checks.ARGUMENT, x -> x.count(3));
    }

    private static void dueLikeness(String one, String another, int want) {
        Catalogmend c = new Catalogmend();
        c.setBound(100);
        Checks.mergeAnew(c, one, another);
        due("likeness of " + one + " and " + another, c.likeness(0, 1), want);
        due("likeness of " + another + " and " + one, c.likeness(1, 0), want);
        due("likeness of " + one + " and itself", c.likeness(0, 0), 100);
    }

    private static void likeness() {
        dueLikeness("kitten", "sitting", 57);
        dueLikeness("abcdefghij klmnop 12", "qrstuvwxyzqrstuvwxy3", 0);
        dueLikeness("a", "b", 0);
        dueLikeness("a", TWENTY, 5);
        dueLikeness("abc", "abd", 66);
        dueLikeness("abcdefg", "abcdefx", 85);
        dueLikeness("abcd", "bcde", 50);
        dueLikeness("abcd", "badc", 25);
        dueLikeness("flaw", "lawn", 50);
        dueLikeness("abcdefghij klmnop 12", "abcdefghij klmnop 1", 95);
        dueLikeness("abcdefghij klmnop 12", "bcdefghij klmnop 12a", 90);
        dueLikeness("aaaa", "aaaab", 80);
        dueLikeness(" a", "a", 50);
        due("likeness with an obsolete one", small().likeness(2, 0), 50);
        CHECKS.refused("likeness -1", CatalogmendTest::small, Checks.INDEX, x -> x.likeness(-1, 0));
        CHECKS.refused("likeness 3", CatalogmendTest::small, Checks.INDEX, x -> x.likeness(3, 0));
        CHECKS.refused("likeness with -1", CatalogmendTest::small, Checks.INDEX, x -> x.likeness(0, -1));
        CHECKS.refused("likeness with 3", CatalogmendTest::small, Checks.INDEX, x -> x.likeness(0, 3));
    }

    private static void dueGuess(String what, Catalogmend c, String text, int context, boolean isPlural, int want) {
        Checks.put(c, text);
        due("guess: " + what, c.guess(context, isPlural), want);
        due("guessByAll: " + what, c.guessByAll(context, isPlural), want);
    }

    private static void guess() {
        Catalogmend c = new Catalogmend();
        dueGuess("no entries", c, "abc", 0, false, -1);
        Checks.add(c, "abcdefghij", 0, false);
        Checks.add(c, "abcdefghxx", 1, false);
        Checks.add(c, "dogs", 0, true);
        Checks.add(c, "abcdefghij", 3, false);
        c.merge();
        dueGuess("nothing is full", c, "abcdefghij", 0, false, -1);
        Checks.translate(c, 1, 0, "x");
        dueGuess("one is full", c, "abcdefghij", 0, false, 1);
        Checks.translate(c, 0, 0, "y");
        dueGuess("the greatest likeness", c, "abcdefghij", 1, false, 0);
        dueGuess("likeness goes ahead of the context", c, "abcdefghiz", 1, false, 0);
        dueGuess("too short", c, "abcde", 0, false, -1);
        dueGuess("just long enough", c, "abcdef", 0, false, 0);
        dueGuess("too long", c, "abcdefghijklmnopq", 0, false, -1);
        dueGuess("not too long", c, "abcdefghijklmnop", 0, false, 0);
        dueGuess("plural, not full", c, "dogs", 0, true, -1);
        Checks.translate(c, 2, 1, "z");
        dueGuess("plural, half full", c, "dogs", 0, true, -1);
        Checks.translate(c, 2, 0, "z");
        dueGuess("plural", c, "dogs", 3, true, 2);
        dueGuess("not plural", c, "dogs", 0, false, -1);
        c.setBound(1);
        dueGuess("the least bound", c, "j", 0, false, 0);
        dueGuess("no likeness at all", c, "q", 0, false, -1);
        c.setBound(100);
        dueGuess("the greatest bound", c, "abcdefghij", 2, false, 0);
        dueGuess("no other text", c, "abcdefghijk", 0, false, -1);
        dueGuess("an obsolete one", old(), "old 2", 3, false, 2);
        dueGuess("a guess", guessed(), "abcdf", 0, false, 0);
        Supplier<Catalogmend> made = CatalogmendTest::small;
        Supplier<Catalogmend> empty = () -> {
            Catalogmend emptied = small();
            emptied.clearText();
            return emptied;
        };
        CHECKS.refused("guess -1", made, Checks.ARGUMENT, x -> x.guess(-1, false));
        CHECKS.refused("guess 4", made, Checks.ARGUMENT, x -> x.guess(4, false));
        CHECKS.refused("guess of nothing", empty, Checks.STATE, x -> x.guess(3, false));
        CHECKS.refused("guess of nothing, 4", empty, Checks.ARGUMENT, x -> x.guess(4, true));
        CHECKS.refused("guessByAll -1", made, Checks.ARGUMENT, x -> x.guessByAll(-1, false));
        CHECKS.refused("guessByAll 4", made, Checks.ARGUMENT, x -> x.guessByAll(4, false));
        CHECKS.refused("guessByAll of nothing", empty, Checks.STATE, x -> x.guessByAll(3, false));
        CHECKS.refused("guessByAll of nothing, 4", empty, Checks.ARGUMENT, x -> x.guessByAll(4, true));
        CHECKS.refused("guess", CatalogmendTest::old, Checks.NOTHING, x -> x.guess(0, false));
        CHECKS.refused("guessByAll", CatalogmendTest::old, Checks.NOTHING, x -> x.guessByAll(0, false));
    }

    private static void guessTies() {
        Catalogmend c = new Catalogmend();
        c.setBound(100);
        Checks.add(c, "abcx", 0, false);
        Checks.add(c, "abcy", 1, false);
        Checks.add(c, "abcz", 1, false);
        Checks.add(c, "abcdx", 2, false);
        c.merge();
        for (int entry = 0; entry < 4; entry++) {
            Checks.translate(c, entry, 0, "" + (char) ('a' + entry));
        }
        c.setBound(60);
        dueGuess("the lowest number", c, "abcw", 3, false, 0);
        dueGuess("the context, and the lowest number", c, "abcw", 1, false, 1);
        dueGuess("the context of the lowest number", c, "abcw", 0, false, 0);
        dueGuess("a context with less likeness", c, "abcw", 2, false, 0);
        dueGuess("percents that are the same", c, "abcd", 2, false, 3);
        c.clearTemplate();
        Checks.add(c, "abcw", 1, false);
        Checks.add(c, "abcw", 3, false);
        due("merge guesses the same", c.merge(), 2);
        due("by context and by number", Checks.translation(c, 0, 0) + Checks.translation(c, 1, 0), "ba");
    }

    private static void keepAndRestore() {
        Catalogmend c = guessed();
        String before = Checks.entries(c);
        c.keep(0);
        c.confirm(0);
        Checks.translate(c, 0, 0, "changed");
        c.keep(1);
        String then = Checks.entries(c);
        Checks.mergeAnew(c, "qqqq");
        due("restore(0)", c.restore(0), 3);
        due("as it was first", Checks.entries(c), before);
        due("restore(1)", c.restore(1), 3);
        due("as it was then", Checks.entries(c), then);
        due("the template stays", c.messages(), 1);
        due("the buffer stays", c.clearText(), 4);
        c.restore(0);
        Checks.translate(c, 0, 0, "again");
        c.restore(0);
        due("what is kept does not change", Checks.entries(c), before);

        Catalogmend empty = new Catalogmend();
        empty.keep(1);
        due("nothing is kept at 0", Checks.answer(() -> empty.restore(0)), Checks.STATE);
        Checks.mergeAnew(empty, "a");
        empty.keep(0);
        due("an empty one is restored", empty.restore(1), 0);
        due("no entries", empty.entries(), 0);
        due("one entry", empty.restore(0), 1);
        empty.keep(1);
        due("what was kept is lost", empty.restore(1), 1);
        CHECKS.refused("keep -1", CatalogmendTest::small, Checks.INDEX, x -> x.keep(-1));
        CHECKS.refused("keep 2", CatalogmendTest::small, Checks.INDEX, x -> x.keep(2));
        CHECKS.refused("restore -1", CatalogmendTest::small, Checks.INDEX, x -> x.restore(-1));
        CHECKS.refused("restore 2", CatalogmendTest::small, Checks.INDEX, x -> x.restore(2));
        CHECKS.refused("restore 0", CatalogmendTest::small, Checks.STATE, x -> x.restore(0));
        CHECKS.refused("restore 1", CatalogmendTest::small, Checks.STATE, x -> x.restore(1));
        CHECKS.refused("restore 2 with both kept", CatalogmendTest::openClash, Checks.INDEX, x -> x.restore(2));
        CHECKS.refused("keep 2 with both kept", CatalogmendTest::openClash, Checks.INDEX, x -> x.keep(2));
    }

    /** One entry with these translations in the elder one, there and here; "-" stands for the elder's. */
    private static Catalogmend threeWay(String elder, String there, String here) {
        Catalogmend c = new Catalogmend();
        Checks.mergeAnew(c, "abcd");
        if (!elder.isEmpty()) {
            Checks.translate(c, 0, 0, elder);
        }
        c.keep(0);
        if (!there.equals("-")) {
            Checks.translate(c, 0, 0, there);
        }
        c.keep(1);
        c.restore(0);
        if (!here.equals("-")) {
            Checks.translate(c, 0, 0, here);
        }
        return c;
    }

    private static void dueThreeWay(String elder, String there, String here, int clashes, String want) {
        Catalogmend c = threeWay(elder, there, here);
        String what = elder + "/" + there + "/" + here;
        due("clashes of " + what, c.mergeKept(), clashes);
        due("merging of " + what, Checks.entries(c), "abcd " + want + "; *");
    }

    private static void mergeKept() {
        dueThreeWay("c", "-", "-", 0, "= c");
        dueThreeWay("c", "b", "-", 0, "= b");
        dueThreeWay("c", "-", "a", 0, "= a");
        dueThreeWay("c", "b", "b", 0, "= b");
        dueThreeWay("c", "b", "a", 1, "? a");
        dueThreeWay("c", "bb", "b", 1, "? b");
        dueThreeWay("", "-", "-", 0, "= ");
        dueThreeWay("", "b", "-", 0, "= b");
        dueThreeWay("", "-", "a", 0, "= a");
        dueThreeWay("", "b", "b", 0, "= b");
        dueThreeWay("", "b", "a", 1, "? a");

        Catalogmend again = threeWay("c", "b", "a");
        again.mergeKept();
        due("a clash goes on", again.mergeKept(), 1);
        due("what is kept stays", again.restore(0) + Checks.entries(again), "1abcd = c; *");
        due("what is kept stays", again.restore(1) + Checks.entries(again), "1abcd = b; *");

        due("a translation is taken away", taken("-"), "0 abcd = ; *");
        due("a translation that changed is not", taken("a"), "1 abcd ? a; *");

        Catalogmend one = new Catalogmend();
        CHECKS.refused("nothing kept", CatalogmendTest::small, Checks.STATE, Catalogmend::mergeKept);
        one.keep(0);
        due("nothing at 1", Checks.answer(one::mergeKept), Checks.STATE);
        Catalogmend another = new Catalogmend();
        another.keep(1);
        due("nothing at 0", Checks.answer(another::mergeKept), Checks.STATE);
        another.keep(0);
        due("both are empty", another.mergeKept(), 0);
        CHECKS.refused("nothing at 0", () -> keptAt(1), Checks.STATE, Catalogmend::mergeKept);
        CHECKS.refused("nothing at 1", () -> keptAt(0), Checks.STATE, Catalogmend::mergeKept);
    }

    private static Catalogmend keptAt(int place) {
        Catalogmend c = small();
        c.keep(place);
        Checks.translate(c, 0, 0, "other");
        return c;
    }

    /** The elder has "c", the other one nothing. */
    private static String taken(String here) {
        Catalogmend c = new Catalogmend();
        Checks.mergeAnew(c, "abcd");
        c.keep(1);
        Checks.translate(c, 0, 0, "c");
        c.keep(0);
        if (!here.equals("-")) {
            Checks.translate(c, 0, 0, here);
        }
        return c.mergeKept() + " " + Checks.entries(c);
    }

    private static void mergeKeptSlots() {
        Catalogmend c = new Catalogmend();
        c.setForms(4);
        Checks.add(c, "dogs", 1, true);
        Checks.add(c, "cats", 1, true);
        c.merge();
        for (int slot = 0; slot < 4; slot++) {
            Checks.translate(c, 0, slot, "c");
        }
        c.keep(0);
        Checks.translate(c, 0, 0, "b");
        Checks.translate(c, 0, 1, "b");
        Checks.translate(c, 0, 3, "b");
        Checks.translate(c, 1, 2, "b");
        c.keep(1);
        c.restore(0);
        Checks.translate(c, 0, 0, "a");
        Checks.translate(c, 0, 2, "a");
        Checks.translate(c, 0, 3, "a");
        Checks.translate(c, 1, 1, "a");
        due("two clashes", c.mergeKept(), 2);
        due("each slot by itself", Checks.entries(c), "dogs ? a|b|a|a; cats = |a|b|; *");
        due("a slot without a translation", c.lengthOf(1, 0), 0);
        c.confirm(0);
        due("the same clashes again", c.mergeKept(), 2);
        due("marked again", c.isMarked(0), true);

        Catalogmend open = openClash();
        due("open and marked", Checks.entries(open), "dogs ? a|; *");
        open.confirm(0);
        due("confirmed", Checks.entries(open), "dogs = a|; *");
    }

    private static void mergeKeptMarks() {
        Catalogmend c = guessed();
        c.clearTemplate();
        c.merge();
        c.keep(1);
        Checks.mergeAnew(c, "abce", "abcdf");
        due("a mark here", Checks.entries(c),
                "abce ? x; abcdf ? x; * abcde ? x; abcd = x; ");
        c.confirm(1);
        c.keep(0);
        due("no mark comes without its translation", c.mergeKept(), 0);
        due("the same translations", Checks.entries(c),
                "abce ? x; abcdf = x; * abcde ? x; abcd = x; ");

        due("a mark comes with its translation", markTaken(), "0 abcdf ? x; * abcd = x; ");
        due("no mark comes with another one's", markNotTaken(), "0 abcdf = y; * abcd = x; ");

        Catalogmend marked = guessed();
        marked.keep(0);
        Checks.translate(marked, 0, 0, "b");
        marked.keep(1);
        marked.restore(0);
        due("here marked, there not", marked.mergeKept(), 0);
        due("the mark here stays", Checks.entries(marked), "abcdf ? b; * abcde ? x; abcd = x; ");
    }

    /** The other one has a guess "x" where this one has nothing yet, and the elder one no entry. */
    private static String markTaken() {
        Catalogmend c = new Catalogmend();
        Checks.mergeAnew(c, "abcd");
        Checks.translate(c, 0, 0, "x");
        c.keep(0);
        Checks.mergeAnew(c, "abcdf");
        c.keep(1);
        c.restore(0);
        c.setBound(100);
        c.merge();
        return c.mergeKept() + " " + Checks.entries(c);
    }

    /** The same, but the other one's guess has been translated anew. */
    private static String markNotTaken() {
        Catalogmend c = new Catalogmend();
        Checks.mergeAnew(c, "abcd");
        Checks.translate(c, 0, 0, "x");
        c.keep(0);
        Checks.mergeAnew(c, "abcdf");
        Checks.translate(c, 0, 0, "y");
        c.keep(1);
        c.restore(0);
        c.setBound(100);
        c.merge();
        return c.mergeKept() + " " + Checks.entries(c);
    }

    private static void mergeKeptForeign() {
        Catalogmend c = new Catalogmend();
        Checks.mergeAnew(c, "aaaa", "bbbb");
        Checks.translate(c, 0, 0, "a");
        c.keep(0);
        Checks.mergeAnew(c, "cccc", "dddd", "aaaa");
        Checks.translate(c, 1, 0, "d");
        c.clearTemplate();
        Checks.add(c, "cccc", 0, false);
        Checks.add(c, "aaaab", 0, false);
        c.setBound(80);
        c.merge();
        due("the other one", Checks.entries(c), "cccc = ; aaaab ? a; * dddd = d; aaaa = a; ");
        c.keep(1);
        c.restore(0);
        due("no clash", c.mergeKept(), 0);
        due("the other one's entries behind", Checks.entries(c),
                "aaaa = a; bbbb = ; * aaaab ? a; dddd = d; ");
        due("they are there once", c.mergeKept() + Checks.entries(c),
                "0aaaa = a; bbbb = ; * aaaab ? a; dddd = d; ");

        Catalogmend had = new Catalogmend();
        had.keep(0);
        Checks.add(had, "aaaa", 0, false);
        Checks.add(had, "bbbb", 1, false);
        Checks.add(had, "aaaa", 0, true);
        had.merge();
        Checks.translate(had, 0, 0, "a");
        Checks.translate(had, 2, 1, "half");
        had.keep(1);
        due("an empty one", had.restore(0), 0);
        due("no clash with an empty one", had.mergeKept(), 0);
        due("those with some translation", Checks.entries(had), "* aaaa = a; aaaa = |half; ");

        Catalogmend elderToo = new Catalogmend();
        Checks.mergeAnew(elderToo, "aaaa");
        elderToo.keep(0);
        Checks.translate(elderToo, 0, 0, "a");
        elderToo.keep(1);
        elderToo.restore(0);
        Checks.mergeAnew(elderToo, "bbbb");
        due("an entry that the elder one has too", elderToo.mergeKept() + Checks.entries(elderToo),
                "0bbbb = ; * aaaa = a; ");
    }

    private static void mergeKeptLimit() {
        CHECKS.refused("mergeKept beyond 40", () -> fiveAgainst(36), Checks.STATE, Catalogmend::mergeKept);
        Catalogmend c = fiveAgainst(35);
        due("mergeKept up to 40", Checks.answer(c::mergeKept), "0");
        due("40 entries", c.entries(), 40);
        due("those here stay active", c.active(), 5);
        due("a second time adds none", c.mergeKept(), 0);
        due("40 entries still", c.entries(), 40);
    }

    /** Five entries here, so many others at the place 1, and none in the elder one. */
    private static Catalogmend fiveAgainst(int others) {
        Catalogmend c = new Catalogmend();
        c.keep(0);
        fill(c, others);
        c.keep(1);
        c.restore(0);
        Checks.mergeAnew(c, "v", "w", "x", "y", "z");
        return c;
    }
}
