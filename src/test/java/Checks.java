import java.util.function.Consumer;
import java.util.function.Supplier;

/** What the tests share: counting wrong answers, and working on a catalogue by whole texts. */
final class Checks {
    static final String NOTHING = "nothing";
    static final String ARGUMENT = "IllegalArgumentException";
    static final String STATE = "IllegalStateException";
    static final String INDEX = "IndexOutOfBoundsException";

    private int made;
    private int wrong;

    void due(String what, long got, long want) {
        made++;
        if (got != want) {
            wrong++;
            System.out.println(what + " answered " + got + ", due is " + want);
        }
    }

    void due(String what, boolean got, boolean want) {
        due(what, got ? 1 : 0, want ? 1 : 0);
    }

    void due(String what, String got, String want) {
        made++;
        if (!got.equals(want)) {
            wrong++;
            System.out.println(what + " answered '" + got + "', due is '" + want + "'");
        }
    }

    /** The call throws exactly this, and changes nothing: a second object without it looks the same. */
    void refused(String what, Supplier<Catalogmend> made, String exception, Consumer<Catalogmend> call) {
        Catalogmend called = made.get();
        due(what + " throws", thrownBy(() -> call.accept(called)), exception);
        due(what + " changes nothing", look(called), look(made.get()));
    }

    int end() {
        System.out.println(made + " checks, " + wrong + " wrong");
        return wrong == 0 ? 0 : 1;
    }

    /** What a call answers, or the name of the exception that it throws. */
    static String answer(Supplier<Object> call) {
        try {
            return String.valueOf(call.get());
        } catch (RuntimeException thrown) {
            return thrown.getClass().getSimpleName();
        }
    }

    static String thrownBy(Runnable call) {
        return answer(() -> {
            call.run();
            return NOTHING;
        });
    }

    /** Empties the buffer and types a text. */
    static void put(Catalogmend catalogue, String text) {
        catalogue.clearText();
        for (int place = 0; place < text.length(); place++) {
            catalogue.type(text.charAt(place));
        }
    }

    static int add(Catalogmend catalogue, String text, int context, boolean isPlural) {
        put(catalogue, text);
        return catalogue.addMessage(context, isPlural);
    }

    static int translate(Catalogmend catalogue, int entry, int slot, String text) {
        put(catalogue, text);
        return catalogue.translate(entry, slot);
    }

    /** Tells a new template of messages that are not plural, with the context 0, and merges it. */
    static int mergeAnew(Catalogmend catalogue, String... texts) {
        catalogue.clearTemplate();
        for (String text : texts) {
            add(catalogue, text, 0, false);
        }
        return catalogue.merge();
    }

    static String text(Catalogmend catalogue, int entry, int places) {
        StringBuilder text = new StringBuilder();
        for (int place = 0; place < places; place++) {
            text.append(catalogue.textAt(entry, place));
        }
        return text.toString().stripTrailing();
    }

    static String translation(Catalogmend catalogue, int entry, int slot) {
        StringBuilder text = new StringBuilder();
        int length = catalogue.lengthOf(entry, slot);
        for (int place = 0; place < length; place++) {
            text.append(catalogue.translationAt(entry, slot, place));
        }
        return text.toString();
    }

    static String entry(Catalogmend catalogue, int entry, int places) {
        StringBuilder all = new StringBuilder(text(catalogue, entry, places));
        all.append(catalogue.isMarked(entry) ? " ? " : " = ");
        int slots = catalogue.slots(entry);
        for (int slot = 0; slot < slots; slot++) {
            all.append(slot == 0 ? "" : "|").append(translation(catalogue, entry, slot));
        }
        return all.toString();
    }

    /**
     * The entries as one text: "open 1 ? auf 1" is a guess, " = " stands for no mark, "|" between
     * slots, and a star behind the active ones. A large catalogue is looked at less closely, so
     * that an object stays within its 512 calls.
     */
    static String entries(Catalogmend catalogue) {
        StringBuilder all = new StringBuilder();
        int entries = catalogue.entries();
        int active = catalogue.active();
        int places = entries <= 6 ? 20 : 2;
        for (int entry = 0; entry < entries; entry++) {
            all.append(entry == active ? "* " : "").append(entry(catalogue, entry, places));
            all.append("; ");
        }
        return all.append(active == entries ? "*" : "").toString();
    }

    /** All that is there, the buffer, the bound and what is kept too; asked at the end only. */
    static String look(Catalogmend catalogue) {
        StringBuilder all = new StringBuilder(entries(catalogue));
        all.append(" messages ").append(catalogue.messages());
        all.append(" buffer ").append(catalogue.clearText());
        all.append(" bound ").append(catalogue.setBound(50));
        all.append(" forms ").append(answer(() -> catalogue.setForms(2)));
        for (int place = 0; place < 2; place++) {
            int kept = place;
            all.append(" kept ").append(answer(() -> catalogue.restore(kept)));
            all.append(' ').append(catalogue.entries() <= 6 ? entries(catalogue) : "");
        }
        return all.toString();
    }

    private Checks() {
    }

    static Checks begin() {
        return new Checks();
    }
}
