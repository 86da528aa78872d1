/** Promises 8 and 9: each sentence on TOKENS, NUMBERS, the end of the text and FAULTS, by itself. */
public final class RulesEdgesTest {
    private static final int NONE = MarkPages.NONE;
    private static final String RULE = "say 0 when 0=0;";
    private static final String WHEN = "say 0 when ";
    private static final String[] KEYWORDS = {"say", "skill", "when", "or", "and", "not", "marked", "share",
        "missed", "last", "class"};

    public static void main(String[] args) {
        noneToTwelveRules();
        theThirteenthRule();
        keywordsWhole();
        keywordsRunOn();
        keywordsElsewhere();
        lettersOfBothCases();
        numbersOfOneToThreeDigits();
        digitsAndLettersApart();
        blanks();
        everyByteBeforeARule();
        everyByteForASign();
        everyByteBehindARule();
        everyByteBehindAWord();
        everyByteBeforeAWord();
        everyByteBehindANumber();
        theEndIsTheLength();
        theEndBehindBlanks();
        aFullTape();
        sayingsUpTo39();
        skillsUpTo4();
        numbersUpTo999();
        openUpToEight();
        openInAnyMix();
        closedOnesAreNotOpen();
        openAnewInEachRule();
        theFirstByItsPlace();
        theLeastAtOnePlace();
        faultOfTheLatest();
        faultOfOtherWhats();
        theyStay();
        Desk.finish();
    }

    private static void fine(String text, int want) {
        Desk desk = new Desk();
        Desk.due("8: " + text, desk.rules(text), want);
        Desk.due("9: of " + text, desk.x.fault(0) + "@" + desk.x.fault(1), "0@-1");
    }

    private static void fault(String text, int kind, int place) {
        Desk desk = new Desk();
        Desk.due("8: " + text, desk.rules(text), NONE);
        Desk.due("9: of " + text, desk.x.fault(0) + "@" + desk.x.fault(1), kind + "@" + place);
    }

    /** A text of which only the byte b, at the place told, differs; the FAULT of 1 or none. */
    private static void byteAt(String before, int b, String behind, int faultPlace) {
        String text = before + (char) b + behind;
        if (faultPlace == NONE) {
            fine(text, 1);
        } else {
            fault(text, 1, faultPlace);
        }
    }

    private static boolean isBlank(int b) {
        return b == 32 || b == 10;
    }

    private static boolean isLetter(int b) {
        return b >= 'a' && b <= 'z' || b >= 'A' && b <= 'Z';
    }

    private static boolean isDigit(int b) {
        return b >= '0' && b <= '9';
    }

    private static void noneToTwelveRules() {
        for (int n = 0; n <= 12; n++) {
            fine(RULE.repeat(n), n);
        }
        fine(" ", 0);
        fine("\n", 0);
        fine(" \n".repeat(300), 0);
    }

    private static void theThirteenthRule() {
        String twelve = RULE.repeat(12);
        fault(twelve + RULE, 3, 180);
        fault(twelve + "say", 3, 180);
        fault(twelve + " \n say", 3, 183);
        fault(RULE.repeat(14), 3, 180);
        fine(twelve + " \n", 12);
        fault(twelve + ";", 1, 180);
        fault(twelve + "sa", 1, 180);
        fault(twelve + "say0", 3, 180);
        fault(twelve + "says", 1, 180);
    }

    /** A text in which the KEYWORD can stand, cut in two around it. */
    private static String[] around(String keyword) {
        switch (keyword) {
            case "say":
                return new String[] {"", " 0 when 0=0;"};
            case "skill":
                return new String[] {"say 0 ", " 0 when 0=0;"};
            case "when":
                return new String[] {"say 0 ", " 0=0;"};
            case "or":
            case "and":
                return new String[] {"say 0 when 0=0 ", " 0=0;"};
            case "not":
                return new String[] {WHEN, " 0=0;"};
            default:
                return new String[] {WHEN, " = 0;"};
        }
    }

    private static void keywordsWhole() {
        for (String word : KEYWORDS) {
            String[] text = around(word);
            fine(text[0] + word + text[1], 1);
            fault(text[0] + word.substring(1) + text[1], 1, text[0].length());
            fault(text[0] + word.substring(0, word.length() - 1) + text[1], 1, text[0].length());
            for (int i = 0; i < word.length(); i++) {
                String other = word.substring(0, i) + 'q' + word.substring(i + 1);
                fault(text[0] + other + text[1], 1, text[0].length());
            }
        }
    }

    private static void keywordsRunOn() {
        for (String word : KEYWORDS) {
            String[] text = around(word);
            for (String more : new String[] {"a", "z", "A", "Z", word}) {
                fault(text[0] + word + more + text[1], 1, text[0].length());
                fault(text[0] + more + word + text[1], 1, text[0].length());
            }
        }
        fine("say0skill0when0=0and0=0or not(0=0);", 1);
        fault("say0when0=0ornot(0=0);", 1, 11);
    }

    /** Each KEYWORD where it can't stand: at the start, for a NUMBER, for a sign, for the ; . */
    private static void keywordsElsewhere() {
        for (String word : KEYWORDS) {
            if (!word.equals("say")) {
                fault(word + " 0 when 0=0;", 1, 0);
            }
            fault("say " + word + " when 0=0;", 1, 4);
            fault("say 0 skill " + word + " when 0=0;", 1, 12);
            fault("say 0 when 0 " + word + " 0;", 1, 13);
            if (!word.equals("or") && !word.equals("and")) {
                fault("say 0 when 0=0 " + word, 1, 15);
            }
        }
    }

    private static void lettersOfBothCases() {
        for (String word : KEYWORDS) {
            String[] text = around(word);
            for (int i = 0; i < word.length(); i++) {
                String raised = word.substring(0, i) + (char) (word.charAt(i) - 32) + word.substring(i + 1);
                fault(text[0] + raised + text[1], 1, text[0].length());
            }
        }
    }

    private static void numbersOfOneToThreeDigits() {
        String[] can = {"0", "9", "00", "10", "99", "000", "001", "100", "999"};
        for (String number : can) {
            fine(WHEN + number + "=0;", 1);
            fine(WHEN + "0=" + number + ";", 1);
        }
        String[] cannot = {"0000", "0001", "1000", "9999", "00000000000", "4294967296", "9".repeat(100)};
        for (String number : cannot) {
            fault(WHEN + number + "=0;", 1, 11);
            fault(WHEN + "0=" + number + ";", 1, 13);
            fault("say " + number + " when 0=0;", 1, 4);
            fault("say 0 skill " + number + " when 0=0;", 1, 12);
        }
        fault(WHEN + "00 0=0;", 1, 14);
    }

    private static void digitsAndLettersApart() {
        fine("say0when0=0;", 1);
        fine("say 0 skill0when 0=0and 0=0;", 1);
        fault("say 0 when 0x=0;", 1, 12);
        fault("say 0 when x0=0;", 1, 11);
        fault("say 0 when 0=0x;", 1, 14);
        fault("s0y 0 when 0=0;", 1, 0);
        fault("s ay 0 when 0=0;", 1, 0);
        fault("say 1 2 when 0=0;", 1, 6);
    }

    /** 32 and 10 stand between, as many as there may be; none has to where the TOKENS end anyway. */
    private static void blanks() {
        for (String blank : new String[] {" ", "\n", "  ", " \n", "\n\n\n"}) {
            String text = "say 1 skill 2 when not ( 3 + 4 < 5 and marked - 6 = 7 or last > 8 ) ;";
            fine(text.replace(" ", blank), 1);
            fine(blank + RULE + blank + RULE + blank, 2);
        }
        fine("say1skill2when not(3+4<5and marked-6=7or last>8);", 1);
        fine("say" + " ".repeat(586) + "0 when 0=0;", 1);
    }

    private static void everyByteBeforeARule() {
        for (int b = 0; b < 256; b++) {
            byteAt("", b, RULE, isBlank(b) ? NONE : 0);
        }
    }

    private static void everyByteForASign() {
        for (int b = 0; b < 256; b++) {
            boolean compares = b == '<' || b == '=' || b == '>';
            boolean runsOn = isDigit(b) || b == '+' || b == '-';
            int place = compares ? NONE : isBlank(b) ? 13 : runsOn ? 14 : 12;
            byteAt("say 0 when 0", b, "0;", place);
        }
    }

    private static void everyByteBehindARule() {
        for (int b = 0; b < 256; b++) {
            byteAt(RULE, b, "", isBlank(b) ? NONE : 15);
        }
    }

    /** A letter runs on, so that the word is none; a digit is a NUMBER of its own; the rest can't stand. */
    private static void everyByteBehindAWord() {
        for (int b = 0; b < 256; b++) {
            int place = isBlank(b) ? NONE : isLetter(b) ? 0 : isDigit(b) ? 5 : 3;
            byteAt("say", b, " 0 when 0=0;", place);
        }
    }

    private static void everyByteBeforeAWord() {
        for (int b = 0; b < 256; b++) {
            byteAt("say 0 ", b, "when 0=0;", isBlank(b) ? NONE : 6);
        }
    }

    private static void everyByteBehindANumber() {
        for (int b = 0; b < 256; b++) {
            boolean runsOn = b == '+' || b == '-' || b == ';';
            int place = isBlank(b) || isDigit(b) ? NONE : runsOn ? 15 : 14;
            byteAt("say 0 when 0=0", b, ";", place);
        }
    }

    /** Cut inside a word the word is none; cut anywhere else it is the end that can't stand there. */
    private static void theEndIsTheLength() {
        String text = "say 12 skill 3 when not (marked + 1 < 2 and share - 3 > 4 or missed = last) and class > 10 ;";
        for (int length = 1; length < text.length(); length++) {
            int start = length;
            while (start > 0 && isLetter(text.charAt(start - 1))) {
                start--;
            }
            boolean cutsAWord = start < length && isLetter(text.charAt(length));
            fault(text.substring(0, length), 1, cutsAWord ? start : length);
        }
        fine(text, 1);
    }

    private static void theEndBehindBlanks() {
        fault("say", 1, 3);
        fault("say ", 1, 4);
        fault("say \n \n", 1, 7);
        fault("say 0 when 0=0", 1, 14);
        fault("say 0 when 0=0 ", 1, 15);
        fault("say 0 when 0=0" + " ".repeat(586), 1, 600);
        fault(RULE + "say", 1, 18);
    }

    private static void aFullTape() {
        fine("say 0 when 0=0" + " ".repeat(585) + ";", 1);
        fault("say 0 when 0=0" + " ".repeat(585) + ",", 1, 599);
        fine(WHEN + "0" + "+0".repeat(292) + "=0 ;", 1);
        fault(WHEN + "0" + "+0".repeat(294), 1, 600);
        fault("a".repeat(600), 1, 0);
        fault("1".repeat(600), 1, 0);
        fault("(".repeat(600), 1, 0);
        fault(WHEN + "(".repeat(589), 3, 19);
    }

    private static void sayingsUpTo39() {
        for (int n = 0; n < 1000; n++) {
            if (n < 40) {
                fine("say " + n + " when 0=0;", 1);
            } else {
                fault("say " + n + " when 0=0;", 2, 4);
            }
        }
        fine("say 039 when 0=0;", 1);
        fault("say 040 when 0=0;", 2, 4);
        fault("say    40", 2, 7);
        fault("say40", 2, 3);
        fault(RULE + RULE + "say 40 when 0=0;", 2, 34);
    }

    private static void skillsUpTo4() {
        for (int n = 0; n < 1000; n++) {
            if (n < 5) {
                fine("say 0 skill " + n + " when 0=0;", 1);
            } else {
                fault("say 0 skill " + n + " when 0=0;", 2, 12);
            }
        }
        fine("say 0 skill 004 when 0=0;", 1);
        fault("say 0 skill 005 when 0=0;", 2, 12);
        fault("say39skill5", 2, 10);
    }

    /** In an E no NUMBER is above what can be; it is worth what it says. */
    private static void numbersUpTo999() {
        for (int n = 0; n < 1000; n++) {
            Desk desk = new Desk();
            desk.x.question(1, 1);
            desk.x.mark(0, 0, 1);
            int ones = n % 10;
            int rest = n - ones;
            String text = WHEN + n + " = " + rest + " + " + ones + " and " + n + " - " + n + " = 0;";
            Desk.due("8: " + text, desk.rules(text), 1);
            Desk.due("12: is so, " + text, desk.x.page(0), 1);
            desk.rules(WHEN + "not " + n + " = " + n + ";");
            Desk.due("12: is not so, " + n, desk.x.page(0), 0);
        }
    }

    private static void openUpToEight() {
        for (int n = 0; n <= 8; n++) {
            fine(WHEN + "(".repeat(n) + "0=0" + ")".repeat(n) + ";", 1);
            fine(WHEN + "not ".repeat(n) + "0=0;", 1);
        }
        for (int n = 9; n <= 12; n++) {
            fault(WHEN + "(".repeat(n) + "0=0" + ")".repeat(n) + ";", 3, 19);
            fault(WHEN + "not ".repeat(n) + "0=0;", 3, 43);
        }
        fault(WHEN + "(".repeat(9), 3, 19);
        fault(WHEN + "not ".repeat(8) + "not", 3, 43);
        fault(WHEN + "(".repeat(8), 1, 19);
        fault(WHEN + "not ".repeat(8), 1, 43);
    }

    /** Bit i of the mix says whether the i-th is a not; both kinds are counted together. */
    private static void openInAnyMix() {
        for (int mix = 0; mix < 512; mix++) {
            StringBuilder opening = new StringBuilder();
            StringBuilder closing = new StringBuilder();
            String eight = "";
            int ninth = 0;
            for (int i = 0; i < 9; i++) {
                if (i == 8) {
                    eight = opening + "0=0" + closing;
                    ninth = opening.length();
                }
                boolean negates = (mix >> i & 1) == 1;
                opening.append(negates ? "not " : "(");
                closing.append(negates ? "" : ")");
            }
            fine(WHEN + eight + ";", 1);
            fault(WHEN + opening + "0=0" + closing + ";", 3, WHEN.length() + ninth);
        }
    }

    private static void closedOnesAreNotOpen() {
        fine(WHEN + "(0=0)" + " and (0=0)".repeat(20) + ";", 1);
        fine(WHEN + "not 0=0" + " or not 0=0".repeat(20) + ";", 1);
        String seven = WHEN + "(((((((";
        fine(seven + "(0=0) and (0=0) or (0=0))))))));", 1);
        fine(seven + "not 0=0 and not 0=0 or not 0=0)))))));", 1);
        fine(seven + "not 0=0) and not 0=0) and (not 0=0))))));", 1);
        fault(seven + "(0=0) and ((0=0)", 3, 29);
        fault(seven + "not 0=0 and not not 0=0", 3, 34);
        fault(seven + "not (0=0", 3, 22);
        fine(WHEN + "((((((((0=0)))))))) and ((((((((0=0))))))));", 1);
        fine(WHEN + "not not not not not not not not 0=0 or not not not not not not not not 0=0;", 1);
        fault(WHEN + "((((((((0=0)))))))) and (((((((((0=0)", 3, 43);
    }

    private static void openAnewInEachRule() {
        String eight = WHEN + "((((((((0=0))))))));";
        String nots = WHEN + "not not not not not not not not 0=0;";
        fine(eight + nots + eight, 3);
        fault(eight + nots + WHEN + "(((((((((0=0)))))))));", 3, eight.length() + nots.length() + 19);
    }

    private static void theFirstByItsPlace() {
        fault("say 40 skill 5 ?", 2, 4);
        fault("? say 40 skill 5", 1, 0);
        fault("say 0 ? skill 5", 1, 6);
        fault("say 0 skill 5 ?", 2, 12);
        fault("say 0 when ? " + "(".repeat(9), 1, 11);
        fault(WHEN + "(".repeat(9) + "?", 3, 19);
        fault(WHEN + "(".repeat(9) + RULE.repeat(13), 3, 19);
        fault(RULE.repeat(12) + "say 40 skill 5 ?", 3, 180);
        fault(RULE.repeat(11) + "say 40 when 0=0;" + RULE, 2, 169);
        fault("say 40", 2, 4);
        fault("say 0 when 0=0 " + "(".repeat(9), 1, 15);
        fault(WHEN + "0 (((((((((", 1, 13);
    }

    /** What is no TOKEN is 1, even where a NUMBER too high would be 2 or one more open would be 3. */
    private static void theLeastAtOnePlace() {
        fault("say 1000 when 0=0;", 1, 4);
        fault("say 0 skill 1000 when 0=0;", 1, 12);
        fault(WHEN + "(".repeat(8) + "nott 0=0", 1, 19);
        fault(WHEN + "(".repeat(8) + ")", 1, 19);
        fault(RULE.repeat(12) + "saying", 1, 180);
        fault(RULE.repeat(12) + "40", 1, 180);
    }

    private static void faultOfTheLatest() {
        Desk desk = new Desk();
        Desk.due("9: before any", desk.x.fault(0) + "@" + desk.x.fault(1), "0@-1");
        Desk.due("9: one", desk.faultOf("say 40"), "2@4");
        Desk.due("9: another", desk.faultOf("?"), "1@0");
        Desk.due("9: a third", desk.faultOf(RULE.repeat(13)), "3@180");
        desk.phrase(0, 0, "say");
        desk.name(0, 0, "say");
        desk.phrase(40, 0, "say");
        desk.x.page(0);
        Desk.due("9: other calls leave it", desk.x.fault(0) + "@" + desk.x.fault(1), "3@180");
        Desk.due("9: none by a good one", desk.faultOf(RULE), "0@-1");
        Desk.due("9: one again", desk.faultOf(RULE + "say 0 skill 5"), "2@27");
        Desk.due("9: none by an empty one", desk.faultOf(""), "0@-1");
    }

    private static void faultOfOtherWhats() {
        Desk desk = new Desk();
        desk.rules(RULE + "say 40");
        Desk.range("9: what 0, 1", 0, 1, what -> desk.x.fault(what) != NONE);
        Desk.due("9: the FAULT", desk.x.fault(0), 2);
        Desk.due("9: its place", desk.x.fault(1), 19);
        Desk fine = new Desk();
        fine.rules(RULE);
        Desk.due("9: 0 without one", fine.x.fault(0), 0);
        for (int what : Desk.outside(0, 1)) {
            Desk.due("9: without one, what " + what, fine.x.fault(what), NONE);
        }
    }

    /** Whatever the FAULT, and however much was read before it, THE RULES are those of before. */
    private static void theyStay() {
        String[] faulty = {"?", "say", "say 40", "say 0 skill 5", RULE.repeat(13), WHEN + "(".repeat(9),
            "say 8 when 0=0; say 18 when 0=0; say 28 when 0=0; say 38 when 0=0", "say 8 skill 1 when 0=1; ;"};
        for (String text : faulty) {
            Desk desk = new Desk();
            desk.x.question(4, 3);
            desk.x.mark(0, 0, 2);
            desk.rules("say 7 skill 1 when share = 50; say 17 skill 0 when not last > 50;");
            Desk.due("8: a FAULT", desk.rules(text), NONE);
            Desk.due("8: they stay", desk.lines(0), "7/1/0/1 17/0/1/1");
            Desk.due("8: a FAULT again", desk.rules(text), NONE);
            Desk.due("8: they stay still", desk.lines(0), "7/1/0/1 17/0/1/1");
            desk.x.mark(0, 0, 3);
            Desk.due("8: and are so for other points", desk.lines(0), "");
        }
        Desk none = new Desk();
        none.x.question(4, 1);
        none.x.mark(0, 0, 2);
        none.rules(RULE + "say");
        Desk.due("8: none stay none", none.x.page(0), 0);
    }
}
