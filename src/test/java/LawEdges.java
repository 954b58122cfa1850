/** Edges of THE LAW (Terms 2) and of promises 6, 7, 10. */
final class LawEdges {
    private final Edge e;

    LawEdges(Edge e) {
        this.e = e;
    }

    void all() {
        longest();
        lines();
        line();
        signs();
        operand();
        numbers();
        noBlanks();
        names();
        nameOfTheDish();
        sixOpen();
        wraps();
        towardZero();
        byZero();
        oneOrZero();
        allIsWorkedOut();
        firstLine();
        fault();
        notZero();
        withoutText();
        byLaw();
        feed();
        law();
        byLawOf();
    }

    private static String times(String text, int n) {
        return text.repeat(n);
    }

    private void isLaw(String text) {
        e.due("law of " + text, Check.tell(new PastOnce(), text), 1);
    }

    private void fault(String text, int place) {
        e.due("law of " + text, Check.tell(new PastOnce(), text), -100 - place);
    }

    /** What an E comes to, told by what is taken: nine spoons, if it is as said, none else. */
    private void comesTo(String text, int v) {
        String said = text + "=" + v;
        e.due(said, Laid.withLaw(nine(), said).byLaw(0), 9);
        e.due(said + "?0;1", Laid.withLaw(nine(), said + "?0;1").byLaw(0), 0);
    }

    private void holds(String text) {
        e.due(text, Laid.withLaw(nine(), text).byLaw(0), 9);
    }

    // Worth nothing: without a text none would be taken.
    private static PastOnce nine() {
        return Laid.line("0 0 1 9 0");
    }

    private void longest() {
        e.says("Terms 2", "THE LAW is a TEXT by THE TAPE (at most 120 bytes)");
        PastOnce x = nine();
        e.due("119 bytes", Check.tell(x, times("0+", 59) + "1"), 1);
        e.due("by 119 bytes", x.byLaw(0), 9);
        e.due("120 bytes", Check.tell(x, times("0+", 59) + "00"), 1);
        e.due("by 120 bytes", x.byLaw(0), 0);
        for (char c : (times("0+", 59) + "00").toCharArray()) {
            x.feed(c);
        }
        e.due("a byte behind these", x.feed('1'), Edge.FULL);
        e.due("the 120 alone", x.law(), 1);
        e.due("by the 120 alone", x.byLaw(0), 0);
    }

    private void lines() {
        e.says("Terms 2", "LINES, one or more, parted by ; .");
        fault("", 0);
        isLaw("1");
        isLaw("1;1");
        isLaw(times("1;", 59) + "1");
        fault("1;", 2);
        fault(";", 0);
        fault(";1", 0);
        fault("1;;1", 2);
        fault(times("1;", 60), 120);
        e.due("the thirtieth LINE counts", Laid.withLaw(nine(), times("0?0;", 29) + "1").byLaw(0), 9);
        e.due("the first of sixty counts", Laid.withLaw(nine(), times("0;", 59) + "1").byLaw(0), 0);
    }

    private void line() {
        e.says("Terms 2", "LINE: E, or E ? E (what counts if the first is not 0).");
        isLaw("1");
        isLaw("1?1");
        fault("?1", 0);
        fault("1?", 2);
        fault("1??1", 2);
        fault("1?1?1", 3);
        fault("(1?1)", 2);
        isLaw("1?1;1?1");
        for (String text : new String[] {"0|1?1", "1?0|1", "1&1?1", "1?1&1", "0<1?1", "1?0<1", "2-1?1", "1?2-1", "2*1?1", "1?2*1", "!0?1", "1?!0",
            "(1)?1", "1?(1)", "0?1;1?0|1"}) {
            isLaw(text);
            e.due(text, Laid.withLaw(nine(), text).byLaw(0), 9);
        }
        e.due("0?1", Laid.withLaw(nine(), "0?1").byLaw(0), 0);
        e.due("1?1", Laid.withLaw(nine(), "1?1").byLaw(0), 9);
        e.due("-1?1", Laid.withLaw(nine(), "-1?1").byLaw(0), 9);
        e.due("1?0", Laid.withLaw(nine(), "1?0").byLaw(0), 0);
        e.due("1", Laid.withLaw(nine(), "1").byLaw(0), 9);
        e.due("0", Laid.withLaw(nine(), "0").byLaw(0), 0);
    }

    private void signs() {
        e.says("Terms 2", "E = A { | A }. A = B { & B }. B = S, or S < S, S = S, S > S. S = P { + P, - P }. P = O { * O, / O, % O }.");
        for (char sign : "|&+-*/%".toCharArray()) {
            isLaw("1");
            isLaw("1" + sign + "1");
            isLaw("1" + sign + "1" + sign + "1");
            fault("1" + sign, 2);
            fault("1" + sign + ")", 2);
        }
        for (char sign : "<=>".toCharArray()) {
            isLaw("1" + sign + "1");
            fault("1" + sign + "1<1", 3);
            fault("1" + sign + "1=1", 3);
            fault("1" + sign + "1>1", 3);
            fault("1" + sign, 2);
            isLaw("1" + sign + "1|1" + sign + "1&1" + sign + "1");
            isLaw("(1" + sign + "1)" + sign + "1");
            isLaw("1" + sign + "(1" + sign + "1)");
        }
        for (char sign : "|&<=>+*/%);?".toCharArray()) {
            fault(sign + "1", 0);
        }
        holds("1|0&0");
        comesTo("(1&1<1)", 0);
        comesTo("(2<1+1)", 0);
        comesTo("2+3*4", 14);
        comesTo("7-2-1", 4);
        comesTo("40/4/2", 5);
        comesTo("7%4*2", 6);
        comesTo("2*7%4", 2);
    }

    private void operand() {
        e.says("Terms 2", "a NAME, ! O, - O, ( E ).");
        for (int c = 0; c <= 255; c++) {
            boolean whole = "0123456789wslknt".indexOf(c) >= 0;
            boolean begun = "!-(".indexOf(c) >= 0;
            e.due("law of the byte " + c, Check.tell(new PastOnce(), String.valueOf((char) c)), whole ? 1 : begun ? -101 : -100);
        }
        for (int c = 0; c <= 255; c++) {
            boolean more = ";?|&<=>+-*/%".indexOf(c) >= 0;
            e.due("law of w and the byte " + c, Check.tell(new PastOnce(), "w" + (char) c), more ? -102 : -101);
        }
        isLaw("!w");
        isLaw("-w");
        isLaw("(w)");
        fault("()", 1);
        fault("(w", 2);
        fault("w)", 1);
        fault("(w))", 3);
        fault("!", 1);
        fault("-", 1);
        isLaw("w--w");
        isLaw("w-!w");
        fault("w!w", 1);
        fault("w(w)", 1);
        fault("(w)w", 3);
        fault("w+", 2);
        fault("w++w", 2);
        comesTo("--3", 3);
        comesTo("!-0", 1);
        comesTo("-!0", -1);
        comesTo("-3*2", -6);
        comesTo("!0+1", 2);
    }

    private void numbers() {
        e.says("Terms 2", "O = a number (1 to 4 digits)");
        isLaw("7");
        isLaw("9999");
        isLaw("0000");
        isLaw("0007");
        fault("00000", 4);
        fault("12345", 4);
        fault("1+12345", 6);
        fault("w5", 1);
        fault("5w", 1);
        comesTo("0007", 7);
        comesTo("9999", 9999);
        comesTo("1000", 1000);
        comesTo("0", 0);
    }

    private void noBlanks() {
        e.says("Terms 2", "No blanks.");
        fault(" ", 0);
        fault(" 1", 0);
        fault("1 ", 1);
        fault("1 +1", 1);
        fault("1+ 1", 2);
        fault("1; 1", 2);
        fault("1\n", 1);
        fault("1\t+1", 1);
        isLaw("1+1");
    }

    private void names() {
        e.says("Terms 2", "NAMES: w what the next spoon is worth, s the room it takes, l the room that is left");
        e.due("w of the first", Laid.withLaw(Laid.line("4 3 1 4 0"), "w=4").byLaw(0), 1);
        e.due("w until it is 1", Laid.withLaw(Laid.line("4 3 1 4 0"), "w>0").byLaw(0), 2);
        e.due("w below 0", Laid.withLaw(Laid.line("4 3 1 4 0"), "w=4|w=1|w=-2").byLaw(0), 3);
        e.due("w of 0", Laid.withLaw(Laid.line("0 0 1 4 0"), "w=0").byLaw(0), 4);
        e.due("s of 1", Laid.withLaw(Laid.line("4 3 1 4 0"), "s=1").byLaw(0), 4);
        e.due("s of 9", Laid.withLaw(Laid.line("4 3 9 4 0"), "s=9").byLaw(0), 2);
        PastOnce x = Laid.mended(Laid.line("5 1 3 1 0", "5 1 3 1 0"), 0, 5, 1);
        e.due("s, where one RUNS ahead", Laid.withLaw(x, "k=0|s=4").byLaw(1), 1);
        e.due("s, where none lies there", Laid.withLaw(x, "k=1&s=3").byLaw(1), 1);
        e.due("l of all the room", Laid.withLaw(Laid.on(60, "4 0 1 9 0"), "l=60").byLaw(0), 1);
        e.due("l of just what it takes", Laid.withLaw(Laid.on(3, "4 0 3 9 0"), "l=3").byLaw(0), 1);
        e.due("l of the last room", Laid.withLaw(Laid.on(6, "4 0 3 9 0"), "l>2").byLaw(0), 2);
        e.due("l behind the first", Laid.withLaw(Laid.on(6, "4 0 3 9 0"), "l>3").byLaw(0), 1);
        e.due("l behind another DISH", Laid.withLaw(Laid.on(6, "4 0 3 1 0", "4 0 1 1 0"), "k=0|l=3").byLaw(1), 1);
    }

    private void nameOfTheDish() {
        e.says("Terms 2", "k the DISH (its place in the ORDER, in LAY the one that is tried), n how many DISHES are behind it,"
                + " t how many of it were taken.");
        PastOnce x = Laid.line("1 0 1 2 0", "1 0 1 2 0", "1 0 1 2 0", "1 0 1 2 0", "1 0 1 2 0", "1 0 1 2 0", "1 0 1 2 0", "1 0 1 2 0", "1 0 1 2 0");
        for (int k = 0; k <= 8; k++) {
            Check.tell(x, "k=" + k);
            e.due("k=" + k + ", of k", x.byLaw(k), 2);
            e.due("k=" + k + ", of all", x.byLaw(-1), 2);
            Check.tell(x, "n=" + (8 - k));
            e.due("n=" + (8 - k) + ", of k", x.byLaw(k), 2);
            e.due("n=" + (8 - k) + ", of all", x.byLaw(-1), 2);
        }
        e.due("k=0, n=0 of one DISH", Laid.withLaw(nine(), "k=0&n=0").byLaw(0), 9);
        e.due("t of none", Laid.withLaw(nine(), "t=0").byLaw(0), 1);
        e.due("t of seven", Laid.withLaw(nine(), "t<8").byLaw(0), 8);
        e.due("t of eight", Laid.withLaw(nine(), "t<9").byLaw(0), 9);
        e.due("t of each DISH from 0 on", Laid.withLaw(Laid.line("1 0 1 2 0", "1 0 1 2 0"), "t=0").byLaw(1), 1);
        PastOnce y = Laid.mended(Laid.line("1 0 1 2 0", "1 0 1 2 0"), 0, 6, 50);
        Check.tell(y, "k=0");
        e.due("k as they lie", y.gone(12), 100);
        e.due("k in LAY", y.lay(12, -1), 20);
        e.due("k in LAY, place 0", y.lay(12, 0), 1);
        Check.tell(y, "n=0");
        e.due("n in LAY", y.lay(12, -1), 20);
        e.due("n in LAY, place 0", y.lay(12, 0), 0);
    }

    private void sixOpen() {
        e.says("Terms 2", "At most 6 of ( ! - ahead of an O are open at once.");
        for (char sign : "!-".toCharArray()) {
            isLaw(times("" + sign, 5) + "1");
            isLaw(times("" + sign, 6) + "1");
            fault(times("" + sign, 7) + "1", 6);
            isLaw(times("" + sign, 6) + "1+" + times("" + sign, 6) + "1");
            fault("1+" + times("" + sign, 7) + "1", 8);
            fault("((((((" + sign, 6);
            isLaw("(((((" + sign + "1)))))");
            fault(times("" + sign, 6) + "(", 6);
            isLaw(times("" + sign, 5) + "(1)");
        }
        isLaw("(((((1)))))");
        isLaw("((((((1))))))");
        fault("(((((((1)))))))", 6);
        isLaw("((((((1))))))+((((((1))))))");
        fault("((((((1+!1))))))", 8);
        isLaw("((((((1)+!1)))))");
        fault("((((((1)+!!1)))))", 10);
        isLaw("!(-(!(1)))");
        fault("!(-(!(!1)))", 6);
        isLaw("!(-(!(1-1)))");
        isLaw("1-1-1-1-1-1-1-1-1");
        isLaw("!(-(!(w)))?!(-(!(w)));!(-(!(w)))");
        fault("!-!-!-w?!-!-!-!", 14);
        comesTo("-(-(-(5)))", -5);
        comesTo("((((((7))))))", 7);
        comesTo("!!!!!!7", 1);
    }

    private void wraps() {
        e.says("Terms 2", "Ints that wrap");
        // 8192 * 8192 * 32 is 2 to the 31st.
        holds("8192*8192*32-1>0");
        holds("8192*8192*32<0");
        holds("8192*8192*32-1+1<0");
        holds("-(8192*8192*32)<0");
        holds("-(8192*8192*32)=8192*8192*32");
        holds("-8192*8192*32<0");
        holds("-8192*8192*32-1>0");
        comesTo("8192*8192*64", 0);
        comesTo("9999*9999*9999%1000", 9999 * 9999 * 9999 % 1000);
    }

    private void towardZero() {
        e.says("Terms 2", "/ and % toward 0");
        comesTo("7/2", 3);
        comesTo("-7/2", -3);
        comesTo("7/-2", -3);
        comesTo("-7/-2", 3);
        comesTo("-1/2", 0);
        comesTo("7%2", 1);
        comesTo("-7%2", -1);
        comesTo("7%-2", 1);
        comesTo("-7%-2", -1);
        comesTo("-6%2", 0);
        holds("8192*8192*32/-1=8192*8192*32");
        comesTo("8192*8192*32%-1", 0);
    }

    private void byZero() {
        e.says("Terms 2", "by 0 they give 0");
        comesTo("7/0", 0);
        comesTo("7%0", 0);
        comesTo("0/0", 0);
        comesTo("0%0", 0);
        comesTo("-7/0", 0);
        comesTo("7/1", 7);
        comesTo("7/-1", -7);
        comesTo("7%1", 0);
        comesTo("7/(2-2)", 0);
        comesTo("7%(2-2)", 0);
        comesTo("5+7/0", 5);
        comesTo("7/0*9", 0);
    }

    private void oneOrZero() {
        e.says("Terms 2", "| & < = > ! give 1, 0");
        comesTo("(5|0)", 1);
        comesTo("(0|-7)", 1);
        comesTo("(5|7)", 1);
        comesTo("(0|0)", 0);
        comesTo("(5&7)", 1);
        comesTo("(5&0)", 0);
        comesTo("(0&7)", 0);
        comesTo("(2&1)", 1);
        comesTo("(2<3)", 1);
        comesTo("(3<3)", 0);
        comesTo("(4<3)", 0);
        comesTo("(2=3)", 0);
        comesTo("(3=3)", 1);
        comesTo("(4=3)", 0);
        comesTo("(2>3)", 0);
        comesTo("(3>3)", 0);
        comesTo("(4>3)", 1);
        comesTo("!0", 1);
        comesTo("!1", 0);
        comesTo("!5", 0);
        comesTo("!-1", 0);
    }

    private void allIsWorkedOut() {
        e.says("Terms 2", "all is worked out");
        comesTo("(1|7/0)", 1);
        comesTo("(0&7/0)", 0);
        comesTo("(7/0|1)", 1);
        comesTo("(1&7%0)", 0);
    }

    private void firstLine() {
        e.says("Terms 2", "The first LINE without a first E, or whose first E is not 0, counts; none: 0.");
        e.due("7;0", Laid.withLaw(nine(), "7;0").byLaw(0), 9);
        e.due("0;7", Laid.withLaw(nine(), "0;7").byLaw(0), 0);
        e.due("0?0;7", Laid.withLaw(nine(), "0?0;7").byLaw(0), 9);
        e.due("1?0;7", Laid.withLaw(nine(), "1?0;7").byLaw(0), 0);
        e.due("-1?0;7", Laid.withLaw(nine(), "-1?0;7").byLaw(0), 0);
        e.due("0?0;1?7;0", Laid.withLaw(nine(), "0?0;1?7;0").byLaw(0), 9);
        e.due("0?1;0?1: none", Laid.withLaw(nine(), "0?1;0?1").byLaw(0), 0);
        e.due("0?1: none", Laid.withLaw(nine(), "0?1").byLaw(0), 0);
        e.due("t<2?1;t<4?0;1", Laid.withLaw(nine(), "t<2?1;t<4?0;1").byLaw(0), 2);
        e.due("t>1?0;t=0?5;t=1?-5", Laid.withLaw(nine(), "t>1?0;t=0?5;t=1?-5").byLaw(0), 2);
    }

    private void fault() {
        e.says("Terms 2", "FAULT: the place (from 0) of the first byte with which no TEXT goes on; the length, if it ends too early.");
        fault(")", 0);
        fault("1)", 1);
        fault("1)))", 1);
        fault("1;x;y", 2);
        fault("", 0);
        fault("1+", 2);
        fault("((1)", 4);
        fault(times("w+", 59) + "w)", 119);
        fault(times("w+", 60), 120);
        fault("x" + times("w", 119), 0);
        isLaw(times("w+", 59) + "w");
    }

    private void notZero() {
        e.says("Terms 2", "Not 0: one takes it, if it MAY be; else one goes on.");
        e.due("1", Laid.withLaw(nine(), "1").byLaw(0), 9);
        e.due("-1", Laid.withLaw(nine(), "-1").byLaw(0), 9);
        e.due("0", Laid.withLaw(nine(), "0").byLaw(0), 0);
        e.due("if it fits", Laid.withLaw(Laid.on(5, "1 0 3 4 0"), "1").byLaw(0), 1);
        e.due("if there is one", Laid.withLaw(Laid.line("1 0 3 0 0"), "1").byLaw(0), 0);
        e.due("if none bars", Laid.withLaw(Laid.mended(Laid.line("1 0 1 4 0", "1 0 1 4 1"), 0, 9, 2), "1").byLaw(1), 0);
        PastOnce x = Laid.withLaw(Laid.line("1 0 1 4 0", "1 0 1 4 0"), "k=1|t=1|t=2");
        e.due("one goes on at the first 0", x.byLaw(0), 0);
        e.due("and is at the next DISH", x.byLaw(1), 4);
    }

    private void withoutText() {
        e.says("Terms 2", "Without a text: if w is more than 0.");
        e.due("w 2, 1, 0", Laid.line("2 1 1 9 0").byLaw(0), 2);
        e.due("w 1, 0", Laid.line("1 1 1 9 0").byLaw(0), 1);
        e.due("w 0", Laid.line("0 0 1 9 0").byLaw(0), 0);
        e.due("w 1, -1", Laid.line("1 2 1 9 0").byLaw(0), 1);
        PastOnce x = Laid.line("2 1 1 9 0");
        Check.tell(x, "1;");
        e.due("a text with a FAULT is none", x.byLaw(0), 2);
        Check.tell(x, "");
        e.due("no byte is none", x.byLaw(0), 2);
        Check.tell(x, "1");
        e.due("with a text", x.byLaw(0), 9);
    }

    private void byLaw() {
        e.says("Terms 2", "BY LAW: all that is worth; how many of a DISH.");
        e.due("of no DISHES", new PastOnce().byLaw(-1), 0);
        PastOnce x = Laid.withLaw(Laid.line("3 2 1 3 0", "7 0 1 1 0"), "1");
        e.due("3, 1, -1 and 7", x.byLaw(-1), 10);
        e.due("three of DISH 0", x.byLaw(0), 3);
        e.due("one of DISH 1", x.byLaw(1), 1);
    }

    private void feed() {
        e.says("Promise 6", "A byte (0 .. 255) comes to THE TAPE: how many it has. BAD, FULL (120).");
        e.between("feed(v)", 0, 255, Edge.BAD, v -> new PastOnce().feed(v));
        PastOnce x = new PastOnce();
        for (int n = 1; n <= 120; n++) {
            e.due("the byte " + n, x.feed(n == 1 ? 0 : n == 2 ? 255 : 'w'), n);
        }
        e.due("one more", x.feed('w'), Edge.FULL);
        e.due("one more, 256", x.feed(256), Edge.BAD);
        e.due("there are", x.count(2), 120);
        e.due("the first is a FAULT", x.law(), -100);
        e.due("the first again", x.feed('w'), 1);
    }

    private void law() {
        e.says("Promise 7", "THE TAPE becomes THE LAW: 1; -100 less its FAULT; THE TAPE is empty then.");
        PastOnce x = nine();
        e.due("no byte", x.law(), -100);
        e.due("t<3", Check.tell(x, "t<3"), 1);
        e.due("THE TAPE", x.count(2), 0);
        e.due("by it", x.byLaw(0), 3);
        e.due("no byte again", x.law(), -100);
        e.due("THE LAW stays", x.byLaw(0), 3);
        e.due("t<5)", Check.tell(x, "t<5)"), -103);
        e.due("THE TAPE", x.count(2), 0);
        e.due("THE LAW stays", x.byLaw(0), 3);
        e.due("120 bytes too few", Check.tell(x, times("w+", 60)), -220);
        e.due("THE TAPE", x.count(2), 0);
        e.due("the next one", Check.tell(x, "t<4"), 1);
        e.due("by the next one", x.byLaw(0), 4);
        String[] texts = {"0", "0", "t<2", "0?1;0?1;1", "1;1;(", "t<5", "0?1;t<6", "s", "0;1"};
        int[] taken = {0, 0, 2, 9, 9, 5, 6, 9, 0};
        for (int i = 0; i < texts.length; i++) {
            Check.tell(x, texts[i]);
            e.due("by " + texts[i] + ", behind the others", x.byLaw(0), taken[i]);
        }
    }

    private void byLawOf() {
        e.says("Promise 10", "BY LAW: worth (dish -1), spoons of a DISH. VOID: BAD.");
        e.between("byLaw(v) of none", -1, -1, Edge.VOID, v -> new PastOnce().byLaw(v));
        e.between("byLaw(v) of two", -1, 1, Edge.VOID, v -> Laid.line("5 1 3 4 0", "5 1 3 1 0").byLaw(v));
        e.between("byLaw(v) of nine", -1, 8, Edge.VOID, v -> nineDishes().byLaw(v));
        PastOnce x = Laid.line("5 1 3 4 0", "6 1 3 1 0");
        e.due("byLaw(-1)", x.byLaw(-1), 5 + 4 + 3 + 2 + 6);
        e.due("byLaw(0)", x.byLaw(0), 4);
        e.due("byLaw(1)", x.byLaw(1), 1);
    }

    static PastOnce nineDishes() {
        return Laid.line("1 0 1 1 0", "2 0 1 1 0", "3 0 1 1 0", "4 0 1 1 0", "5 0 1 1 0", "6 0 1 1 0", "7 0 1 1 0", "8 0 1 1 0", "9 0 1 1 0");
    }
}
