import java.util.LinkedHashMap;
import java.util.Map;
import java.util.function.Consumer;
import java.util.function.Supplier;

/** The sentences of the promises 1 to 3: a new object, and the buffer. */
final class BufferSentences extends Checks {
    private BufferSentences() {
    }

    // ---- a new object

    @Holds(at = "Promise 1", words = "Creates an empty template")
    static void promise1TheTemplateIsEmpty() {
        due("messages", new Catalogmend().messages(), 0);
        due("clearTemplate", new Catalogmend().clearTemplate(), 0);
        Catalogmend c = new Catalogmend();
        c.merge();
        due("entries from it", c.entries(), 0);
    }

    @Holds(at = "Promise 1", words = "an empty catalogue")
    static void promise1TheCatalogueIsEmpty() {
        Catalogmend c = new Catalogmend();
        due("entries", c.entries(), 0);
        due("active", c.active(), 0);
        for (int state = Catalogmend.OPEN; state <= Catalogmend.DONE; state++) {
            due("count", c.count(state), 0);
        }
        due("entry 0", thrownBy(() -> c.state(0)), INDEX);
        put(c, "a");
        due("find", c.find(0, false), Catalogmend.NONE);
        due("guess", c.guess(0, false), Catalogmend.NONE);
    }

    @Holds(at = "Promise 1", words = "the buffer is empty")
    static void promise1TheBufferIsEmpty() {
        due("clearText", new Catalogmend().clearText(), 0);
        due("type", new Catalogmend().type('a'), 1);
        refused("addMessage", Catalogmend::new, STATE, c -> c.addMessage(0, false));
        refused("guess", Catalogmend::new, STATE, c -> c.guess(0, false));
        refused("guessByAll", Catalogmend::new, STATE, c -> c.guessByAll(0, false));
    }

    @Holds(at = "Promise 1", words = "nothing is kept")
    static void promise1NothingIsKept() {
        refused("restore(0)", Catalogmend::new, STATE, c -> c.restore(0));
        refused("restore(1)", Catalogmend::new, STATE, c -> c.restore(1));
        refused("mergeKept", Catalogmend::new, STATE, Catalogmend::mergeKept);
        due("setForms", new Catalogmend().setForms(3), 2);
    }

    @Holds(at = "Promise 1", words = "`Catalogmend()`")
    static void promise1ObjectsShareNothing() {
        Catalogmend one = rich();
        Catalogmend another = new Catalogmend();
        due("bound", another.setBound(100), 60);
        due("entries", another.entries() + another.messages() + another.clearText(), 0);
        due("forms", another.setForms(1), 2);
        due("the other one's bound", one.setBound(1), 70);
    }

    // ---- type

    @Holds(at = "Promise 2", words = "Types a character behind the text in the buffer.")
    static void promise2BehindTheText() {
        Catalogmend c = new Catalogmend();
        for (int place = 0; place < 20; place++) {
            c.type(TWENTY.charAt(place));
        }
        c.addMessage(0, false);
        c.merge();
        due("what was typed", Look.text(c, 0, 25), TWENTY);
    }

    @Holds(at = "Promise 2", words = "- `character`: a letter a to z, a space, or a digit 1 to 3")
    static void promise2TheEndsOfTheCharacters() {
        for (char good : "az 13".toCharArray()) {
            due("'" + good + "'", answer(() -> new Catalogmend().type(good)), "1");
        }
        for (char beside : "`{\u001f!04".toCharArray()) {
            due("'" + beside + "'", answer(() -> new Catalogmend().type(beside)), ARGUMENT);
        }
    }

    @Holds(at = "Promise 2", words = "Returns how many characters it has then.")
    static void promise2HowManyThen() {
        Catalogmend c = new Catalogmend();
        due("the first", c.type(' '), 1);
        for (int length = 2; length <= 20; length++) {
            due("one more", c.type('1'), length);
        }
        c.clearText();
        due("the first again", c.type('z'), 1);
    }

    @Holds(at = "Promise 2", words = "Throws `IllegalArgumentException` if it is another character")
    static void promise2AnotherCharacter() {
        for (char other : "A4.\n\u00e4\uffff".toCharArray()) {
            refused("'" + other + "'", Checks::small, ARGUMENT, c -> c.type(other));
        }
    }

    @Holds(at = "Promise 2", words = "Throws `IllegalStateException` if it has 20 characters")
    static void promise2TwentyCharacters() {
        Supplier<Catalogmend> full = () -> {
            Catalogmend c = small();
            put(c, TWENTY);
            return c;
        };
        Catalogmend one = full.get();
        put(one, TWENTY.substring(0, 19));
        due("the 20th", one.type('z'), 20);
        refused("the 21st", full, STATE, c -> c.type('z'));
        refused("a wrong 21st", full, ARGUMENT, c -> c.type('Z'));
        one.clearText();
        due("behind clearText", one.type('z'), 1);
    }

    // ---- clearText

    @Holds(at = "Promise 3", words = "Empties the buffer.")
    static void promise3TheBufferIsEmptyThen() {
        Catalogmend c = small();
        c.clearText();
        due("again", c.clearText(), 0);
        due("addMessage", thrownBy(() -> c.addMessage(0, false)), STATE);
        due("type", c.type('a'), 1);
        c.addMessage(0, false);
        c.merge();
        due("only the new text", Look.text(c, 2, 20), "a");
    }

    @Holds(at = "Promise 3", words = "Only type() changes it otherwise.")
    static void promise3NoOtherCallChangesIt() {
        everyOtherCall().forEach((what, call) -> {
            Catalogmend c = rich();
            thrownBy(() -> call.accept(c));
            due("the buffer's length behind " + what, c.clearText(), 2);
            Catalogmend used = rich();
            thrownBy(() -> call.accept(used));
            used.restore(0);
            used.translate(0, 0);
            due("the buffer behind " + what, Look.translation(used, 0, 0), "xy");
        });
    }

    /** All but type() and clearText(), answered and refused. */
    private static Map<String, Consumer<Catalogmend>> everyOtherCall() {
        Map<String, Consumer<Catalogmend>> calls = new LinkedHashMap<>();
        for (int argument = -1; argument <= 1; argument++) {
            int a = argument;
            calls.put("addMessage" + a, c -> c.addMessage(a, true));
            calls.put("setForms" + a, c -> c.setForms(a));
            calls.put("setBound" + a, c -> c.setBound(a));
            calls.put("find" + a, c -> c.find(a, false));
            calls.put("translate" + a, c -> c.translate(a, 0));
            calls.put("confirm" + a, c -> c.confirm(a + 1));
            calls.put("state" + a, c -> c.state(a));
            calls.put("isMarked" + a, c -> c.isMarked(a));
            calls.put("slots" + a, c -> c.slots(a));
            calls.put("textAt" + a, c -> c.textAt(0, a));
            calls.put("translationAt" + a, c -> c.translationAt(0, 0, a));
            calls.put("lengthOf" + a, c -> c.lengthOf(0, a));
            calls.put("fault" + a, c -> c.fault(a));
            calls.put("count" + a, c -> c.count(a));
            calls.put("likeness" + a, c -> c.likeness(a, 0));
            calls.put("guess" + a, c -> c.guess(a, false));
            calls.put("guessByAll" + a, c -> c.guessByAll(a, false));
            calls.put("keep" + a, c -> c.keep(a == 0 ? 1 : 2));
            calls.put("restore" + a, c -> c.restore(a));
        }
        calls.put("clearTemplate", Catalogmend::clearTemplate);
        calls.put("messages", Catalogmend::messages);
        calls.put("merge", Catalogmend::merge);
        calls.put("entries", Catalogmend::entries);
        calls.put("active", Catalogmend::active);
        calls.put("mergeKept", Catalogmend::mergeKept);
        return calls;
    }

    @Holds(at = "Promise 3", words = "Returns how many characters it had.")
    static void promise3HowManyItHad() {
        Catalogmend c = new Catalogmend();
        due("none", c.clearText(), 0);
        for (int length = 1; length <= 20; length++) {
            put(c, TWENTY.substring(0, length));
            due("clearText", c.clearText(), length);
        }
        due("none again", c.clearText(), 0);
    }
}
