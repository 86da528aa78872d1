/** Promises 8 and 9: THE RULES as a text, what they mean, and their FAULTS. */
public final class RulesTest {
    private static final String RULE = "say 0 when 0=0;";

    public static void main(String[] args) {
        counts();
        tokens();
        cannotStand();
        tooHigh();
        tooMany();
        fullTapes();
        cutTapes();
        faultsAndStaying();
        meaning();
        measures();
        Desk.finish();
    }

    private static void rules(String text, int want) {
        Desk desk = new Desk();
        Desk.due("8: " + text, desk.rules(text), want);
        Desk.due("9: fault of " + text, desk.x.fault(0), 0);
        Desk.due("9: place in " + text, desk.x.fault(1), -1);
    }

    private static void fault(String text, String want) {
        Desk desk = new Desk();
        Desk.due("9: " + text, desk.faultOf(text), want);
        Desk.due("8: no rules by " + text, desk.type(text).x.rules(), -1);
    }

    private static void counts() {
        rules("", 0);
        rules(" \n ", 0);
        rules(RULE, 1);
        rules(RULE.repeat(12), 12);
        rules("say 39 skill 4 when 999 > 0;", 1);
        rules("say 0" + " ".repeat(585) + "when 0=0;", 1);
    }

    private static void tokens() {
        rules("say1skill2when3<4and5=6or7>8;say 0when marked<share;", 2);
        rules("\nsay\n039 skill 004\nwhen(missed)<1;".replace("(missed)", " missed"), 1);
        rules("say 0 when not not(not(0=0)and 1+2-3=0);", 1);
        rules("say 0 when 0=0or 1=1and not 2=2;", 1);
        fault("say 0 when 0=0or1=1andnot 2=2;", "1@19");
        fault("sayy 0 when 0=0;", "1@0");
        fault("SAY 0 when 0=0;", "1@0");
        fault("saY 0 when 0=0;", "1@0");
        fault("sa 0 when 0=0;", "1@0");
        fault("xay 0 when 0=0;", "1@0");
        fault("sayA 0 when 0=0;", "1@0");
        fault("sayZ 0 when 0=0;", "1@0");
        fault("saya 0 when 0=0;", "1@0");
        fault("sayz 0 when 0=0;", "1@0");
        fault("say 0 when mast = 0;", "1@11");
        fault("say 0 when clas = 0;", "1@11");
        fault("say 0 when classs = 0;", "1@11");
        fault("say 0000 when 0=0;", "1@4");
        fault("say 0 skill 0001 when 0=0;", "1@12");
        fault("say 0 when 1000=0;", "1@11");
        fault("say 0 when 0=1234;", "1@13");
        fault("say\t0 when 0=0;", "1@3");
        fault("say\r0 when 0=0;", "1@3");
        fault("say 0 when 0=0;\0", "1@15");
        fault("say 0 when 0=0;\u00ff", "1@15");
        fault("say 0 when 0=0;\u00e9", "1@15");
        fault("say 0 when 0*1=0;", "1@12");
        fault("say 0 when 0=0.", "1@14");
        fault("say 0 when 0=0:", "1@14");
        fault("say 0 when 0?0;", "1@12");
        fault("say 0 when 0==0;", "1@13");
        fault("say 0 when 0<=0;", "1@13");
        fault("say 0 when @=0;", "1@11");
        fault("say 0 when [0=0];", "1@11");
        fault("say 0 when {0=0};", "1@11");
        fault("say 0 when `=0;", "1@11");
        fault("say 0 when /=0;", "1@11");
    }

    private static void cannotStand() {
        fault("0", "1@0");
        fault("  ;", "1@2");
        fault("when 0=0;", "1@0");
        fault("say", "1@3");
        fault("say  \n", "1@6");
        fault("say 0", "1@5");
        fault("say say 0 when 0=0;", "1@4");
        fault("say skill 0 when 0=0;", "1@4");
        fault("say 0 0 when 0=0;", "1@6");
        fault("say 0 skill", "1@11");
        fault("say 0 skill when 0=0;", "1@12");
        fault("say 0 skill 0 skill 0 when 0=0;", "1@14");
        fault("say 0 skill 0", "1@13");
        fault("say 0 0=0;", "1@6");
        fault("say 0 when", "1@10");
        fault("say 0 when ;", "1@11");
        fault("say 0 when 0;", "1@12");
        fault("say 0 when 0=;", "1@13");
        fault("say 0 when =0;", "1@11");
        fault("say 0 when 0=0", "1@14");
        fault("say 0 when 0=0   ", "1@17");
        fault("say 0 when 0=0 say 1 when 0=0;", "1@15");
        fault("say 0 when 0=0;;", "1@15");
        fault("say 0 when 0=0=0;", "1@14");
        fault("say 0 when 0=0<0;", "1@14");
        fault("say 0 when -1=0;", "1@11");
        fault("say 0 when +1=0;", "1@11");
        fault("say 0 when 1+=0;", "1@13");
        fault("say 0 when 1+-1=0;", "1@13");
        fault("say 0 when 1 1=0;", "1@13");
        fault("say 0 when 0=0 and;", "1@18");
        fault("say 0 when 0=0 or;", "1@17");
        fault("say 0 when or 0=0;", "1@11");
        fault("say 0 when 0=0 and or 0=0;", "1@19");
        fault("say 0 when 0=0 not 0=0;", "1@15");
        fault("say 0 when not;", "1@14");
        fault("say 0 when not and 0=0;", "1@15");
        fault("say 0 when ();", "1@12");
        fault("say 0 when (0=0;", "1@15");
        fault("say 0 when (0=0", "1@15");
        fault("say 0 when 0=0);", "1@14");
        fault("say 0 when (0=0));", "1@16");
        fault("say 0 when (0)=0;", "1@13");
        fault("say 0 when 0=(0);", "1@13");
        fault("say 0 when (0=0)(0=0);", "1@16");
        fault("say 0 when (0=0)=0;", "1@16");
        fault("say 0 when skill=0;", "1@11");
        fault("say 0 when 0=0 when;", "1@15");
        fault("say marked when 0=0;", "1@4");
        fault(RULE + "sya 0", "1@15");
    }

    private static void tooHigh() {
        rules("say 39 when 0=0;", 1);
        fault("say 40 when 0=0;", "2@4");
        fault("say 999 when 0=0;", "2@4");
        fault("say   40", "2@6");
        rules("say 0 skill 4 when 0=0;", 1);
        fault("say 0 skill 5 when 0=0;", "2@12");
        fault("say 0 skill 999", "2@12");
        fault("say 40 skill 5 when 0=0;", "2@4");
        fault("say 40 ?", "2@4");
        fault("? say 40 when 0=0;", "1@0");
        fault(RULE + "say 40 when 0=0;", "2@19");
    }

    private static void tooMany() {
        fault(RULE.repeat(13), "3@180");
        fault(RULE.repeat(12) + "\n say", "3@182");
        fault(RULE.repeat(12) + "when", "1@180");
        fault(RULE.repeat(12) + "say 40", "3@180");
        rules(RULE.repeat(12) + "  ", 12);
        rules("say 0 when " + "(".repeat(8) + "0=0" + ")".repeat(8) + ";", 1);
        fault("say 0 when " + "(".repeat(9) + "0=0" + ")".repeat(9) + ";", "3@19");
        rules("say 0 when " + "not ".repeat(8) + "0=0;", 1);
        fault("say 0 when " + "not ".repeat(9) + "0=0;", "3@43");
        rules("say 0 when " + "not(".repeat(4) + "0=0" + ")".repeat(4) + ";", 1);
        fault("say 0 when " + "not(".repeat(4) + "not 0=0" + ")".repeat(4) + ";", "3@27");
        fault("say 0 when " + "not(".repeat(4) + "(0=0)" + ")".repeat(4) + ";", "3@27");
        fault("say 0 when " + "(".repeat(200), "3@19");
        fault("say 0 when " + "not ".repeat(100), "3@43");
        rules("say 0 when " + "(0=0)and".repeat(20) + " not 0=0" + "and not 0=0".repeat(20) + ";", 1);
        rules("say 0 when (((((((not 0=0 and not 0=0 or not 0=0) and (0=0)) and (0=0))))));", 1);
        fault("say 0 when (((((((not 0=0 and not not 0=0)))))));", "3@34");
        fault("say 0 when 0=0 " + "(".repeat(9), "1@15");
    }

    private static void fullTapes() {
        fault(";".repeat(600), "1@0");
        fault("say0when" + "0+".repeat(296), "1@600");
        String longest = "say 0 when 0" + "+1".repeat(292) + "=1;";
        Desk desk = new Desk();
        desk.x.question(4, 1);
        desk.x.mark(0, 0, 2);
        for (int i = 0; i < 6; i++) {
            Desk.due("8: a long text", desk.rules(longest), 1);
            Desk.due("12: is not so", desk.x.page(0), 0);
            Desk.due("8: a long text", desk.rules(longest.replace("=1;", "=292;").replace("0+1+1+", "0+2+")), 1);
            Desk.due("12: is so", desk.x.page(0), 1);
        }
    }

    /** What was cut off the TAPE no longer belongs to its last word or number. */
    private static void cutTapes() {
        Desk desk = new Desk();
        desk.type("sayings").x.end(3);
        desk.x.rules();
        Desk.due("9: a cut word", desk.x.fault(0) + "@" + desk.x.fault(1), "1@3");
        desk.type("say 123").x.end(5);
        desk.x.rules();
        Desk.due("9: a cut number", desk.x.fault(0) + "@" + desk.x.fault(1), "1@5");
    }

    private static void faultsAndStaying() {
        Desk desk = new Desk();
        desk.x.question(4, 1);
        desk.x.mark(0, 0, 2);
        Desk.due("8: rules", desk.rules("say 7 when share = 50;say 17 when 0=0;"), 2);
        Desk.due("8: a page by them", desk.lines(0), "7/0/0/1 17/0/1/1");
        Desk.due("9: a fault", desk.faultOf("say 8 when 0=0;say 9 when 0=0;say"), "1@33");
        Desk.due("8: they stay", desk.lines(0), "7/0/0/1 17/0/1/1");
        Desk.due("9: it stays told", desk.x.fault(0), 1);
        int[] wrong = {-1, 2, 3, Integer.MIN_VALUE, Integer.MAX_VALUE};
        for (int what : wrong) {
            Desk.due("9: what " + what, desk.x.fault(what), -1);
        }
        Desk.due("8: others", desk.rules("say 38 when 0=0;"), 1);
        Desk.due("9: the latest has none", desk.x.fault(0) + "@" + desk.x.fault(1), "0@-1");
        Desk.due("8: these count", desk.lines(0), "38/0/0/1");
        Desk.due("8: an empty text", desk.rules(""), 0);
        Desk.due("8: no rules", desk.x.page(0), 0);
    }

    /** Whether E is so, for a PUPIL with marked 2, share 40, missed 1, last 0, class 40. */
    private static void so(String e, boolean want) {
        Desk desk = new Desk();
        desk.x.question(4, 1);
        desk.x.question(6, 1);
        desk.x.mark(0, 0, 4);
        desk.x.mark(0, 1, 0);
        desk.rules("say 0 when " + e + ";");
        Desk.due("8: " + e, desk.x.page(0), want ? 1 : 0);
    }

    private static void meaning() {
        so("1<2", true);
        so("2<2", false);
        so("3<2", false);
        so("2=2", true);
        so("2=3", false);
        so("3>2", true);
        so("2>2", false);
        so("2>3", false);
        so("007=7", true);
        so("999+999+1=999+999+1", true);
        so("10-4-3=3", true);
        so("10-4+3=9", true);
        so("0-5<0", true);
        so("0-5>0-6", true);
        so("1=5-4", true);
        so("5-4=1+0", true);
        so("not 1=1", false);
        so("not 1=2", true);
        so("not not 1=1", true);
        so("not 1=2 and 1=2", false);
        so("not (1=2 and 1=2)", true);
        so("not 1=1 or 1=1", true);
        so("not (1=1 or 1=1)", false);
        so("1=1 or 1=1 and 1=2", true);
        so("(1=1 or 1=1) and 1=2", false);
        so("1=2 and 1=1 or 1=1", true);
        so("1=2 and (1=1 or 1=1)", false);
        so("1=2 or 1=2 or 1=1", true);
        so("1=1 and 1=1 and 1=2", false);
        so("1=2 or 1=2", false);
        so("1=1 and 1=1", true);
        String deep = "1=2 or 1=1 and (".repeat(8) + "1=2 or 1=1 and 1+1-2=2-1-1" + ")".repeat(8);
        so(deep, true);
        so("not (" + "1=2 or 1=1 and (".repeat(7) + "1=2 or 1=1 and 1+1=1+1" + ")".repeat(8), false);
        so("1" + "+1".repeat(140) + "=141", true);
    }

    private static void measures() {
        so("marked = 2", true);
        so("share = 40", true);
        so("missed = 1", true);
        so("last = 0", true);
        so("class = 40", true);
        so("share - class = last", true);
        so("marked + missed = 3 and share + last = class", true);
    }
}
