/** Promises 6 and 7 (feed, end), seen through the bytes that write gives back; and that a text empties the TAPE. */
public final class TapeTest {
    public static void main(String[] args) {
        feeds();
        ends();
        empties();
        Desk.finish();
    }

    private static void feeds() {
        MarkPages x = new MarkPages();
        for (int n = 20; n <= 600; n += 20) {
            Desk.due("6: length", x.feed(0, 0, 0, 0, 0), n);
        }
        Desk.due("6: beyond 600", x.feed(0, 0, 0, 0, 0), -1);
        Desk.due("6: nothing came", x.end(601), false);
        Desk.due("6: all 600 are there", x.end(600), true);
        Desk.due("6: cut to 581", x.end(581), true);
        Desk.due("6: 601 are too many", x.feed(0, 0, 0, 0, 0), -1);
        Desk.due("6: nothing came of it", x.end(582), false);
        Desk.due("6: cut to 580", x.end(580), true);
        Desk.due("6: 600 are not", x.feed(0, 0, 0, 0, 0), 600);

        Desk desk = new Desk();
        desk.rules("say 0 when 0=0;");
        desk.x.question(1, 1);
        desk.x.mark(0, 0, 1);
        Desk.due("6: order", desk.x.feed(0x00010203, 0x7F8081FE, 0xFFFEFD00, -1, 0x80000001), 20);
        desk.x.phrase(0, 0);
        Desk.due("6: written", desk.x.write(0, 0), 21);
        int[] want = {0, 1, 2, 3, 0x7F, 0x80, 0x81, 0xFE, 0xFF, 0xFE, 0xFD, 0,
            255, 255, 255, 255, 0x80, 0, 0, 1, 10};
        for (int i = 0; i < want.length; i++) {
            Desk.due("6: byte " + i, desk.x.out(i), want[i]);
        }
    }

    private static void ends() {
        MarkPages x = new MarkPages();
        Desk.due("7: an empty one to 0", x.end(0), true);
        Desk.due("7: to 1", x.end(1), false);
        Desk.due("7: below 0", x.end(-1), false);
        x.feed(0, 0, 0, 0, 0);
        Desk.due("7: 21 of 20", x.end(21), false);
        Desk.due("7: far below 0", x.end(Integer.MIN_VALUE), false);
        Desk.due("7: far above", x.end(Integer.MAX_VALUE), false);
        Desk.due("7: unchanged", x.feed(0, 0, 0, 0, 0), 40);
        Desk.due("7: all of it", x.end(40), true);
        Desk.due("7: 13 of it", x.end(13), true);
        Desk.due("7: not 14 again", x.end(14), false);
        Desk.due("7: behind the 13", x.feed(0, 0, 0, 0, 0), 33);

        Desk desk = new Desk();
        desk.rules("say 0 when 0=0;");
        desk.x.question(1, 1);
        desk.x.mark(0, 0, 1);
        desk.type("abcdefghij").x.end(3);
        desk.type("XYZ").x.phrase(0, 0);
        Desk.due("7: the first ones stay", desk.write(0, 0), "abcXYZ\n");
    }

    private static void empties() {
        Desk desk = new Desk();
        desk.type("say 0 when 0=0;").x.rules();
        Desk.due("8: empty after rules", desk.x.end(1), false);
        desk.type("say").x.rules();
        Desk.due("8: empty after a fault", desk.x.end(1), false);
        desk.type("a").x.phrase(0, 0);
        Desk.due("10: empty after a phrase", desk.x.end(1), false);
        desk.type("a").x.phrase(40, 0);
        Desk.due("10: empty after none such", desk.x.end(1), false);
        desk.type("123456789012345678901").x.phrase(0, 0);
        Desk.due("10: empty after one too long", desk.x.end(1), false);
        desk.type("a").x.name(0, 0);
        Desk.due("11: empty after a name", desk.x.end(1), false);
        desk.type("a").x.name(0, 3);
        Desk.due("11: empty after none such", desk.x.end(1), false);
        desk.type("12345678901").x.name(0, 0);
        Desk.due("11: empty after one too long", desk.x.end(1), false);
    }
}
