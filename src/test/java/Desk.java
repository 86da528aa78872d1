import java.nio.charset.StandardCharsets;
import java.util.function.IntPredicate;

/** What the tests share: a MarkPages to call, texts put on its TAPE, and answers compared. */
final class Desk {
    private static int wrong = 0;

    final MarkPages x;

    Desk() {
        this(new MarkPages());
    }

    Desk(MarkPages x) {
        this.x = x;
    }

    static void due(String what, long got, long want) {
        if (got != want) {
            wrong++;
            System.out.println(what + " answered " + got + ", due is " + want);
        }
    }

    static void due(String what, boolean got, boolean want) {
        due(what, got ? 1 : 0, want ? 1 : 0);
    }

    static void due(String what, String got, String want) {
        if (!got.equals(want)) {
            wrong++;
            System.out.println(what + " answered [" + got + "], due is [" + want + "]");
        }
    }

    /** Both ends of a range can be; what lies beside them, and the ends of int, can't. */
    static void range(String what, int low, int high, IntPredicate can) {
        due(what + ", the least, " + low, can.test(low), true);
        due(what + ", the greatest, " + high, can.test(high), true);
        for (int n : outside(low, high)) {
            due(what + ", " + n, can.test(n), false);
        }
    }

    /** Beside the ends, where a byte or a short would wrap, and the ends of int. */
    static int[] outside(int low, int high) {
        return new int[] {low - 1, high + 1, low - 256, high + 256, low - 65536, high + 65536,
            Integer.MIN_VALUE, Integer.MIN_VALUE + 10, Integer.MAX_VALUE - 10, Integer.MAX_VALUE};
    }

    static void finish() {
        System.out.println(wrong == 0 ? "all answers are as due" : wrong + " answers are not as due");
        if (wrong != 0) {
            System.exit(1);
        }
    }

    /** Puts the text behind the TAPE; the bytes that fill up the last feed are cut off again. */
    Desk type(String text) {
        byte[] bytes = text.getBytes(StandardCharsets.ISO_8859_1);
        int length = 0;
        for (int i = 0; i < bytes.length; i += 20) {
            length = x.feed(packed(bytes, i), packed(bytes, i + 4), packed(bytes, i + 8),
                packed(bytes, i + 12), packed(bytes, i + 16));
        }
        if (bytes.length > 0) {
            int filling = (20 - bytes.length % 20) % 20;
            due("end behind " + text, x.end(length - filling), true);
        }
        return this;
    }

    static int packed(byte[] bytes, int from) {
        int number = 0;
        for (int i = from; i < from + 4; i++) {
            number = number << 8 | (i < bytes.length ? bytes[i] & 255 : 7);
        }
        return number;
    }

    int rules(String text) {
        return type(text).x.rules();
    }

    boolean phrase(int saying, int tongue, String text) {
        return type(text).x.phrase(saying, tongue);
    }

    boolean name(int skill, int tongue, String text) {
        return type(text).x.name(skill, tongue);
    }

    /** The FAULT and its place, as "kind@place". */
    String faultOf(String text) {
        rules(text);
        return x.fault(0) + "@" + x.fault(1);
    }

    /** A PAGE as "saying/skill/rule/set" with blanks between. */
    String lines(int p) {
        StringBuilder all = new StringBuilder();
        for (int i = 0; i < x.page(p); i++) {
            all.append(i == 0 ? "" : " ");
            for (int what = 0; what < 4; what++) {
                all.append(what == 0 ? "" : "/").append(x.line(p, i, what));
            }
        }
        return all.toString();
    }

    String written() {
        StringBuilder all = new StringBuilder();
        int b = x.out(0);
        for (int i = 1; b != MarkPages.NONE; i++) {
            all.append((char) b);
            b = x.out(i);
        }
        return all.toString();
    }

    String write(int p, int tongue) {
        int n = x.write(p, tongue);
        String text = written();
        due("length of what is written", n, text.length());
        return text;
    }
}
