/** States of a MarkPages in which calls are refused: new, used in part, and full. */
final class States {
    private static final String TWELVE_RULES = "say 0 when 0=0;say 10 when 0=0;say 20 skill 0 when 0=0;"
        + "say 25 skill 1 when share>20;say 30 when 0=0;say 31 when 0=0;say 32 when 0=0;say 33 when 0=0;"
        + "say 34 when 0=0;say 35 when 0=0;say 36 when 0=0;say 37 when 0=0;";

    private States() { }

    static Script fresh() {
        return new Script();
    }

    /** Three QUESTIONS, some marks, two RULES, some texts, an OUT, a FAULT, and half a RULE on the TAPE. */
    static Script used() {
        Script script = new Script();
        script.then(x -> x.question(10, 31)).then(x -> x.question(7, 3)).then(x -> x.question(20, 1));
        script.then(x -> x.mark(0, 0, 7)).then(x -> x.mark(0, 1, 0)).then(x -> x.mark(0, 2, 20));
        script.then(x -> x.mark(3, 1, 5)).then(x -> x.mark(7, 2, 9));
        script.rules("say 0 when share > 20; say 12 when missed > 0 or last = 100;");
        script.phrase(0, 0, "a %: #").phrase(39, 2, "z").phrase(6, 0, "six").phrase(0, 2, "0 %");
        script.name(0, 0, "add").name(4, 2, "last").name(1, 0, "sub");
        script.rules("say 40 when 0=0;");
        script.then(x -> x.write(0, 0));
        return script.type("say 5 when 0=0;say");
    }

    /** Ten QUESTIONS, twelve RULES and LINES, a TAPE of 600 bytes. */
    static Script full() {
        Script script = new Script();
        for (int q = 0; q < 10; q++) {
            int most = 2 * q + 2;
            int skills = q == 9 ? 1 : 31 - q;
            int number = q;
            script.then(x -> x.question(most, skills));
            script.then(x -> x.mark(0, number, number)).then(x -> x.mark(6, number, 1));
        }
        script.then(x -> x.mark(7, 9, 0));
        script.rules(TWELVE_RULES);
        script.phrase(0, 0, "%#").phrase(10, 0, "ten").phrase(39, 2, "x".repeat(20)).phrase(0, 2, "0");
        script.name(0, 0, "1234567890").name(4, 2, "last");
        script.then(x -> x.write(0, 0));
        return script.type("say 7 when 0=0" + " ".repeat(585) + ";");
    }
}
