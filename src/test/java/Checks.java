import java.util.function.Consumer;
import java.util.function.Function;
import java.util.function.ObjIntConsumer;
import java.util.function.Supplier;

/** What the tests share: counting wrong answers, asking for refusals, and working by whole texts. */
abstract class Checks {
    static final String NOTHING = "nothing";
    static final String ARGUMENT = "IllegalArgumentException";
    static final String STATE = "IllegalStateException";
    static final String INDEX = "IndexOutOfBoundsException";
    static final int LEAST = Integer.MIN_VALUE;
    static final int MOST = Integer.MAX_VALUE;
    static final String TWENTY = "abcdefghij klmnop 12";

    private static String test = "";
    private static int made;
    private static int wrong;

    // ---- counting

    static void begin(String name) {
        test = name;
    }

    static int checksMade() {
        return made;
    }

    static void due(String what, String got, String want) {
        made++;
        if (!got.equals(want)) {
            wrong++;
            System.out.println(test + ": " + what + " answered '" + got + "', due is '" + want + "'");
        }
    }

    static void due(String what, long got, long want) {
        due(what, String.valueOf(got), String.valueOf(want));
    }

    static void due(String what, boolean got, boolean want) {
        due(what, String.valueOf(got), String.valueOf(want));
    }

    static int end() {
        System.out.println(made + " checks, " + wrong + " wrong");
        return wrong == 0 ? 0 : 1;
    }

    // ---- refusals

    /** What a call answers, or the name of the exception that it throws. */
    static String answer(Supplier<Object> call) {
        try {
            return String.valueOf(call.get());
        } catch (RuntimeException thrown) {
            return thrown.getClass().getSimpleName();
        }
    }

    static String thrownBy(Runnable call) {
        return answer(() -> {
            call.run();
            return NOTHING;
        });
    }

    /** The call throws exactly this, by a throw of the class itself, and changes nothing. */
    static void refused(String what, Supplier<Catalogmend> made, String exception, Consumer<Catalogmend> call) {
        try {
            call.accept(made.get());
            due(what, NOTHING, exception);
        } catch (RuntimeException thrown) {
            due(what, thrown.getClass().getSimpleName(), exception);
            StackTraceElement[] trace = thrown.getStackTrace();
            boolean itself = trace.length > 0 && trace[0].getClassName().startsWith("Catalogmend");
            due(what + " throws by itself", itself, true);
        }
        changesNothing(what, made, call);
    }

    /** The call is answered, and nothing is changed by it. */
    static void onlyAsks(String what, Supplier<Catalogmend> made, Consumer<Catalogmend> call) {
        due(what, thrownBy(() -> call.accept(made.get())), NOTHING);
        changesNothing(what, made, call);
    }

    /** Each look is made at two new objects, one of them with the call and one without. */
    private static void changesNothing(String what, Supplier<Catalogmend> made, Consumer<Catalogmend> call) {
        for (Function<Catalogmend, String> look : Look.looksAt(made)) {
            Catalogmend called = made.get();
            thrownBy(() -> call.accept(called));
            due(what + " changes nothing", look.apply(called), look.apply(made.get()));
        }
    }

    /** The numbers 0 and 2 of small() are taken, the ones beside them are not. */
    static void entryEnds(ObjIntConsumer<Catalogmend> call) {
        for (int entry = -1; entry <= 3; entry++) {
            int number = entry;
            String due = entry < 0 || entry > 2 ? INDEX : NOTHING;
            due("entry " + entry + " of 3", thrownBy(() -> call.accept(small(), number)), due);
        }
    }

    static void noSuchEntry(ObjIntConsumer<Catalogmend> call) {
        for (int number : new int[] {-1, 3, 40, LEAST, MOST}) {
            refused("entry " + number + " of 3", Checks::small, INDEX, x -> call.accept(x, number));
        }
        refused("entry 0 of none", Catalogmend::new, INDEX, x -> call.accept(x, 0));
        due("entry 40 of 40", thrownBy(() -> call.accept(large(40), 40)), INDEX);
    }

    // ---- working by whole texts

    /** Empties the buffer and types a text. */
    static void put(Catalogmend c, String text) {
        c.clearText();
        for (int place = 0; place < text.length(); place++) {
            c.type(text.charAt(place));
        }
    }

    static int add(Catalogmend c, String text, int context, boolean isPlural) {
        put(c, text);
        return c.addMessage(context, isPlural);
    }

    static int translate(Catalogmend c, int entry, int slot, String text) {
        put(c, text);
        return c.translate(entry, slot);
    }

    /** Tells a new template of messages that are not plural, with the context 0, and merges it. */
    static int mergeAnew(Catalogmend c, String... texts) {
        c.clearTemplate();
        for (String text : texts) {
            add(c, text, 0, false);
        }
        return c.merge();
    }

    /** Adds the text in the buffer as often as there are keys for it, and not more than so often. */
    static void addKeys(Catalogmend c, int most) {
        for (int key = 0; key < 8 && key < most; key++) {
            c.addMessage(key % 4, key >= 4);
        }
    }

    // ---- objects to begin with

    /** "file 1" is done, the plural "dogs" half done, "old 1" obsolete and done; "xy" in the buffer. */
    static Catalogmend small() {
        Catalogmend c = new Catalogmend();
        mergeAnew(c, "old 1");
        translate(c, 0, 0, "alt 1");
        c.clearTemplate();
        add(c, "file 1", 2, false);
        add(c, "dogs", 3, true);
        c.merge();
        translate(c, 0, 0, "datei 1");
        translate(c, 1, 1, "hunde");
        put(c, "xy");
        return c;
    }

    /** The same, with nothing in the buffer. */
    static Catalogmend emptied() {
        Catalogmend c = small();
        c.clearText();
        return c;
    }

    /** Something of everything: three forms, another bound, a mark, both places, a message not merged. */
    static Catalogmend rich() {
        Catalogmend c = new Catalogmend();
        c.setForms(3);
        c.setBound(70);
        mergeAnew(c, "old 1");
        translate(c, 0, 0, "alt 1");
        c.keep(0);
        mergeAnew(c, "old 12");
        c.keep(1);
        c.clearTemplate();
        add(c, "dogs", 3, true);
        add(c, "file 1", 2, false);
        c.merge();
        translate(c, 0, 1, "hunde");
        translate(c, 1, 0, "datei 1");
        add(c, "file 12", 1, false);
        put(c, "xy");
        return c;
    }

    /** A guess that is active, one that is obsolete, and the entry that they come from. */
    static Catalogmend guessed() {
        Catalogmend c = new Catalogmend();
        mergeAnew(c, "abcd");
        translate(c, 0, 0, "x");
        mergeAnew(c, "abcde");
        mergeAnew(c, "abcdf");
        return c;
    }

    /** A plural entry that is marked for a clash, and not full; both places are kept. */
    static Catalogmend openClash() {
        Catalogmend c = new Catalogmend();
        add(c, "dogs", 0, true);
        c.merge();
        c.keep(0);
        translate(c, 0, 0, "b");
        c.keep(1);
        translate(c, 0, 0, "a");
        c.mergeKept();
        return c;
    }

    /** So many entries, all done; the bound is 100. */
    static Catalogmend large(int entries) {
        Catalogmend c = new Catalogmend();
        fill(c, entries);
        return c;
    }

    /** Makes so many entries in an empty catalogue: eight each with the text "a", "b" and so on. */
    static void fill(Catalogmend c, int entries) {
        c.setBound(100);
        for (int filled = 0; filled < entries; filled += 8) {
            c.clearTemplate();
            put(c, "" + (char) ('a' + filled / 8));
            addKeys(c, entries - filled);
            c.merge();
            int messages = c.messages();
            for (int entry = 0; entry < messages; entry++) {
                c.translate(entry, 0);
                if (entry >= 4) {
                    c.translate(entry, 1);
                }
            }
        }
    }
}
