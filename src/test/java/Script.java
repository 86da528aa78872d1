import java.nio.charset.StandardCharsets;
import java.util.ArrayList;
import java.util.List;
import java.util.function.Consumer;

/** Calls told ahead, so that the same state can be made again and again, and its calls be counted. */
final class Script {
    private final List<Consumer<MarkPages>> calls = new ArrayList<>();
    private int tape = 0;

    Script then(Consumer<MarkPages> call) {
        calls.add(call);
        return this;
    }

    int size() {
        return calls.size();
    }

    MarkPages play() {
        MarkPages x = new MarkPages();
        for (Consumer<MarkPages> call : calls) {
            call.accept(x);
        }
        return x;
    }

    /** The same calls again, with room for others behind them. */
    Script copy() {
        Script other = new Script();
        other.calls.addAll(calls);
        other.tape = tape;
        return other;
    }

    Script cut(int n) {
        tape = n;
        return then(x -> x.end(n));
    }

    Script type(String text) {
        byte[] bytes = text.getBytes(StandardCharsets.ISO_8859_1);
        for (int i = 0; i < bytes.length; i += 20) {
            int from = i;
            then(x -> x.feed(Desk.packed(bytes, from), Desk.packed(bytes, from + 4), Desk.packed(bytes, from + 8),
                Desk.packed(bytes, from + 12), Desk.packed(bytes, from + 16)));
        }
        return bytes.length % 20 == 0 ? counted(bytes.length) : cut(tape + bytes.length);
    }

    private Script counted(int more) {
        tape += more;
        return this;
    }

    Script rules(String text) {
        type(text).then(x -> x.rules());
        tape = 0;
        return this;
    }

    Script phrase(int saying, int tongue, String text) {
        type(text).then(x -> x.phrase(saying, tongue));
        tape = 0;
        return this;
    }

    Script name(int skill, int tongue, String text) {
        type(text).then(x -> x.name(skill, tongue));
        tape = 0;
        return this;
    }
}
