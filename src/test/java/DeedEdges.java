/** Edges of goes IN DEED, CHANGES and the IMAGE (Terms 4) and of promises 22 to 29. */
final class DeedEdges {
    private final Edge e;

    DeedEdges(Edge e) {
        this.e = e;
    }

    void all() {
        atFirst();
        takeASpoon();
        goOn();
        end();
        led();
        staysAsItWas();
        sortsStay();
        neverHinder();
        changes();
        sameNumber();
        latestFirst();
        doneAgain();
        fortyAtMost();
        deedsAreNone();
        image();
        take();
        goOnOf();
        endOf();
        ledOf();
        imageOf();
        back();
        undo();
        redo();
    }

    private void isLed(String what, PastOnce x, int worth, int spoons, int room, int goes, int all, int dish) {
        int[] due = {worth, spoons, room, goes, all, dish};
        for (int i = 0; i < due.length; i++) {
            e.due(what + ", led(" + i + ")", x.led(i), due[i]);
        }
    }

    private static PastOnce two() {
        PastOnce x = new PastOnce();
        x.dish(53, 0);
        x.dish(84, 1);
        return x;
    }

    private void atFirst() {
        e.says("Terms 4", "IN DEED: one stands at a DISH (0 at first) with a plate");
        isLed("no DISHES", new PastOnce(), 0, 0, 20, 0, 0, 0);
        PastOnce x = two();
        isLed("two DISHES", x, 0, 0, 20, 0, 0, 0);
        e.due("a spoon of DISH 0", x.take(), 5);
    }

    private void takeASpoon() {
        e.says("Terms 4", "TAKE a spoon (of SPOONS that are there: they are 1 less)");
        PastOnce x = Laid.line("5 1 1 2 0", "7 1 1 2 0");
        e.due("two are there", x.take(), 5);
        e.due("they are 1 less", x.of(0, 3), 1);
        e.due("one is there", x.take(), 4);
        e.due("none is there", x.of(0, 3), 0);
        e.due("a third", x.take(), Edge.VOID);
        e.due("none is there", x.of(0, 3), 0);
        e.due("the others stay", x.of(1, 3), 2);
        e.due("guests find none", Laid.taken(x, Laid.GREEDY, 0), 0);
        x.end();
        e.due("they do not come back", x.take(), Edge.VOID);
        x.mend(0, 3, 1);
        e.due("one is there again", x.take(), 5);
    }

    private void goOn() {
        e.says("Terms 4", "GO ON (behind the last DISH the go is over)");
        PastOnce x = LawEdges.nineDishes();
        for (int dish = 1; dish <= 8; dish++) {
            e.due("on to " + dish, x.goOn(), dish);
            e.due("no go was over", x.led(3), 0);
        }
        x.take();
        e.due("behind the last", x.goOn(), Edge.NOT);
        isLed("the go is over", x, 0, 0, 20, 1, 9, 0);
        e.due("the next go", x.goOn(), 1);
        PastOnce one = Laid.line("5 1 3 4 0");
        one.take();
        e.due("behind the one", one.goOn(), Edge.NOT);
        isLed("one go of one DISH", one, 0, 0, 20, 1, 5, 0);
        e.due("an empty plate", one.goOn(), Edge.NOT);
        isLed("two goes", one, 0, 0, 20, 2, 5, 0);
        one.dish(73, 0);
        e.due("one more DISH came", one.goOn(), 1);
        e.due("it is the last", one.goOn(), Edge.NOT);
    }

    private void end() {
        e.says("Terms 4", "END: the plate is empty, one is at DISH 0 again.");
        PastOnce x = Laid.mended(Laid.line("5 1 3 4 0", "8 1 4 4 1", "2 1 1 4 2"), 0, 5, 1);
        x.mend(0, 9, 2);
        e.due("with nothing", x.end(), 0);
        isLed("with nothing", x, 0, 0, 20, 0, 0, 0);
        x.take();
        x.goOn();
        e.due("barred", x.take(), Edge.VOID);
        e.due("one spoon", x.end(), 1);
        isLed("the plate is empty", x, 0, 0, 20, 0, 0, 0);
        x.goOn();
        e.due("nothing bars on an empty plate", x.take(), 8);
        e.due("nothing RUNS on an empty plate", x.led(2), 16);
        x.goOn();
        e.due("from the last DISH", x.end(), 1);
        e.due("DISH 0", x.led(5), 0);
        e.due("the first spoon of a plate", x.take(), 5);
    }

    private void led() {
        e.says("Terms 4", "LED: all that lies there is worth (by WORTH as they were taken), spoons on it, room that is left, goes that were over,"
                + " all that these were worth.");
        PastOnce x = two();
        x.mend(0, 0, 0);
        x.mend(0, 1, 9);
        x.take();
        isLed("worth 0", x, 0, 1, 17, 0, 0, 0);
        x.take();
        isLed("worth below 0", x, -9, 2, 14, 0, 0, 0);
        x.mend(0, 0, 20);
        x.mend(0, 1, 0);
        isLed("as they were taken", x, -9, 2, 14, 0, 0, 0);
        x.goOn();
        x.goOn();
        isLed("below 0 as they were taken", x, 0, 0, 20, 1, -9, 0);
        x.take();
        isLed("by what it is worth now", x, 20, 1, 17, 1, -9, 0);
        x.goOn();
        x.take();
        x.take();
        x.take();
        isLed("four spoons", x, 20 + 8 + 7 + 6, 4, 5, 1, -9, 1);
        x.mend(0, 8, 15);
        isLed("no room is left", x, 41, 4, 0, 1, -9, 1);
        x.mend(0, 8, 60);
        isLed("a greater PLATE", x, 41, 4, 45, 1, -9, 1);
        x.goOn();
        isLed("two goes", x, 0, 0, 60, 2, 32, 0);
        x.take();
        x.end();
        isLed("END is no go that was over", x, 0, 0, 60, 2, 32, 0);
    }

    private void staysAsItWas() {
        e.says("Terms 4", "(What lies on the plate stays as it was, whatever is mended: its room");
        PastOnce x = two();
        x.take();
        x.mend(0, 2, 9);
        e.due("SPACE mended", x.led(2), 17);
        e.due("what was taken is worth what it was", x.led(0), 5);
        x.mend(0, 3, 0);
        e.due("SPOONS mended", x.led(1), 1);
        x.mend(0, 5, 1);
        x.goOn();
        x.take();
        e.due("it did not run as it was taken", x.led(2), 17 - 4);
        x = Laid.mended(two(), 0, 5, 1);
        x.take();
        x.mend(0, 5, 0);
        x.goOn();
        x.take();
        e.due("it ran as it was taken", x.led(2), 17 - 5);
    }

    private void sortsStay() {
        e.says("Terms 4", "its SORTS");
        PastOnce x = Laid.mended(two(), 0, 9, 2);
        x.take();
        x.mend(0, 4, 3);
        x.goOn();
        e.due("barred by the SORT that it was", x.take(), Edge.VOID);
        x.mend(1, 4, 2);
        e.due("another SORT is not", x.take(), 8);
        x = two();
        x.mend(3, 9, 2);
        x.take();
        x.mend(0, 4, 3);
        x.goOn();
        e.due("not barred by a SORT that it was not", x.take(), 8);
        x = two();
        x.mend(3, 9, 2);
        x.take();
        x.mend(0, 4, 3);
        x.take();
        x.goOn();
        e.due("barred by the SORT of its second spoon", x.take(), Edge.VOID);
        x.mend(3, 9, 0);
        x.mend(0, 9, 2);
        e.due("barred by the SORT of its first spoon", x.take(), Edge.VOID);
        x.mend(0, 9, 0);
        e.due("by none", x.take(), 8);
    }

    private void neverHinder() {
        e.says("Terms 4", "spoons of the same DISH never hinder one more.)");
        PastOnce x = Laid.mended(Laid.line("9 1 1 9 2", "9 1 1 9 2"), 2, 9, 4);
        e.due("the first", x.take(), 9);
        e.due("one more of a SORT that bars itself", x.take(), 8);
        x.mend(0, 4, 3);
        x.mend(3, 9, 4);
        e.due("one more of a SORT that is barred now", x.take(), 7);
        x.mend(0, 5, 1);
        e.due("one more", x.take(), 6);
        e.due("one more that RUNS", x.take(), 5);
        e.due("each takes 1", x.led(2), 15);
        x.goOn();
        e.due("of the next DISH it hinders", x.take(), Edge.VOID);
    }

    private void changes() {
        e.says("Terms 4", "CHANGES (all numbers of DISHES; PLATE, BARS;");
        int[] to = {7, 2, 4, 5, 1, 1, 11, 11, 21, 1};
        int[] first = {5, 1, 3, 4, 0, 0, 10, 12, 20, 0};
        for (int what = 0; what <= 9; what++) {
            PastOnce x = new PastOnce();
            x.dish(53, 0);
            e.due("a DISH that comes is none", x.count(3), 0);
            x.mend(0, what, to[what]);
            e.due("what " + what + " is one", x.count(3), 1);
            e.due("what " + what + ", undo", x.undo(), 0);
            e.due("what " + what + " is as it was", x.of(0, what), first[what]);
            e.due("what " + what + ", redo", x.redo(), 0);
            e.due("what " + what + " is so again", x.of(0, what), to[what]);
        }
        PastOnce x = new PastOnce();
        for (int i = 0; i < 9; i++) {
            x.dish(53, 0);
        }
        x.mend(8, 0, 6);
        x.mend(4, 9, 31);
        x.undo();
        e.due("BARS of SORT 4", x.of(4, 9), 0);
        x.undo();
        e.due("WORTH of DISH 8", x.of(8, 0), 5);
        e.due("of DISH 0 it stays", x.of(0, 0), 5);
    }

    private void sameNumber() {
        e.says("Terms 4", "telling the same number is none)");
        int[] first = {5, 1, 3, 4, 0, 0, 10, 12, 20, 0};
        for (int what = 0; what <= 9; what++) {
            PastOnce x = new PastOnce();
            x.dish(53, 0);
            e.due("what " + what, x.mend(0, what, first[what]), first[what]);
            e.due("what " + what + " is none", x.count(3), 0);
            e.due("what " + what + ", undo", x.undo(), Edge.STATE);
        }
        PastOnce x = two();
        x.mend(0, 0, 7);
        x.undo();
        x.mend(0, 0, 5);
        e.due("what was undone may still be done again", x.redo(), 0);
        x.mend(0, 0, 7);
        e.due("one is there", x.count(3), 1);
        x.mend(0, 0, 5);
        e.due("back to what it was is one", x.count(3), 2);
    }

    private void latestFirst() {
        e.says("Terms 4", "can be UNDONE, the latest first");
        PastOnce x = two();
        x.mend(0, 0, 6);
        x.mend(0, 8, 30);
        x.mend(0, 0, 7);
        e.due("the latest", x.undo(), 2);
        e.due("WORTH", x.of(0, 0), 6);
        e.due("PLATE stays", x.of(0, 8), 30);
        e.due("the one ahead of it", x.undo(), 1);
        e.due("PLATE", x.of(0, 8), 20);
        e.due("WORTH stays", x.of(0, 0), 6);
        e.due("the first", x.undo(), 0);
        e.due("WORTH", x.of(0, 0), 5);
        e.due("none is left", x.undo(), Edge.STATE);
    }

    private void doneAgain() {
        e.says("Terms 4", "and DONE AGAIN (as long as no other came behind)");
        PastOnce x = two();
        x.mend(0, 0, 6);
        x.mend(0, 0, 7);
        x.mend(0, 8, 30);
        x.undo();
        x.undo();
        x.undo();
        e.due("the first of three", x.redo(), 2);
        e.due("WORTH", x.of(0, 0), 6);
        e.due("the second", x.redo(), 1);
        e.due("WORTH", x.of(0, 0), 7);
        e.due("PLATE is not yet", x.of(0, 8), 20);
        x.undo();
        e.due("the second once more", x.redo(), 1);
        x.mend(1, 0, 1);
        e.due("another came behind", x.redo(), Edge.STATE);
        e.due("PLATE", x.of(0, 8), 20);
        e.due("three may be UNDONE", x.count(3), 3);
        x.undo();
        e.due("that one may be", x.redo(), 0);
        x.undo();
        e.due("a refused one is none", x.mend(1, 0, 21), Edge.BAD);
        e.due("it may still be", x.redo(), 0);
        e.due("no more", x.redo(), Edge.STATE);
    }

    private void fortyAtMost() {
        e.says("Terms 4", "40 at most are kept");
        for (int n = 38; n <= 43; n++) {
            PastOnce x = two();
            for (int i = 1; i <= n; i++) {
                x.mend(0, 6, 20 + i);
                e.due("after " + i, x.count(3), Math.min(i, 40));
            }
            int kept = Math.min(n, 40);
            for (int i = 1; i <= kept; i++) {
                e.due(n + ", undo " + i, x.undo(), kept - i);
            }
            e.due(n + ", no more", x.undo(), Edge.STATE);
            e.due(n + ", what it is then", x.of(0, 6), n <= 40 ? 10 : 20 + n - 40);
            for (int i = 1; i <= kept; i++) {
                e.due(n + ", redo " + i, x.redo(), kept - i);
            }
            e.due(n + ", no more", x.redo(), Edge.STATE);
            e.due(n + ", as it was", x.of(0, 6), 20 + n);
        }
        PastOnce x = two();
        for (int i = 1; i <= 40; i++) {
            x.mend(i % 2, i % 4 < 2 ? 0 : 6, (i + 1) % 20 + 1);
        }
        int[] forty = {x.of(0, 0), x.of(1, 0), x.of(0, 6), x.of(1, 6)};
        x.undo();
        x.mend(0, 8, 33);
        e.due("one undone and another one: forty", x.count(3), 40);
        x.mend(0, 9, 1);
        e.due("and one more: forty", x.count(3), 40);
        for (int i = 39; i >= 0; i--) {
            e.due("undo", x.undo(), i);
        }
        e.due("the oldest, of DISH 1, stays", x.of(1, 0), 3);
        e.due("DISH 0 is as it was", x.of(0, 6), 10);
        for (int i = 39; i >= 0; i--) {
            e.due("redo", x.redo(), i);
        }
        e.due("WORTH of 1", x.of(1, 0), forty[1]);
        e.due("DEAR of 0", x.of(0, 6), forty[2]);
        e.due("DEAR of 1", x.of(1, 6), forty[3]);
        e.due("PLATE", x.of(0, 8), 33);
        e.due("BARS", x.of(0, 9), 1);
    }

    private void deedsAreNone() {
        e.says("Terms 4", "deeds are none.");
        PastOnce x = two();
        x.mend(0, 0, 6);
        x.mend(0, 0, 7);
        x.undo();
        x.image();
        x.take();
        e.due("take", x.count(3), 1);
        x.goOn();
        x.goOn();
        e.due("goOn", x.count(3), 1);
        x.end();
        x.back();
        e.due("end, image, back", x.count(3), 1);
        x.take();
        e.due("redo behind deeds", x.redo(), 0);
        e.due("WORTH", x.of(0, 0), 7);
        x.undo();
        x.undo();
        e.due("a spoon that was taken does not come back", x.of(0, 3), 3);
        e.due("nor leaves the plate", x.led(1), 1);
        e.due("none is left", x.undo(), Edge.STATE);
    }

    private void image() {
        e.says("Terms 4", "AN IMAGE keeps where one stands, the plate, SPOONS, what LED tells.");
        PastOnce x = Laid.mended(Laid.mended(Laid.line("5 1 2 4 0", "8 1 2 4 1", "6 1 2 4 2"), 0, 5, 1), 0, 9, 4);
        x.take();
        x.goOn();
        x.goOn();
        x.goOn();
        x.take();
        x.goOn();
        x.take();
        x.image();
        isLed("at the image", x, 13, 2, 15, 1, 5, 1);
        x.take();
        x.goOn();
        x.goOn();
        x.take();
        x.mend(1, 3, 9);
        x.back();
        isLed("laid back", x, 13, 2, 15, 1, 5, 1);
        e.due("SPOONS of 0", x.of(0, 3), 2);
        e.due("SPOONS of 1", x.of(1, 3), 3);
        e.due("SPOONS of 2", x.of(2, 3), 4);
        e.due("the second spoon of this DISH", x.take(), 7);
        e.due("one RUNS there", x.led(2), 12);
        x.goOn();
        e.due("barred by what lies there", x.take(), Edge.VOID);
        x.mend(0, 0, 9);
        x.back();
        e.due("what is mended is no part of it", x.of(0, 0), 9);
        imageOfTheDish();
    }

    private void imageOfTheDish() {
        PastOnce x = Laid.mended(Laid.mended(Laid.line("9 1 2 9 0", "8 1 2 4 1", "6 1 2 4 2"), 0, 5, 1), 0, 9, 4);
        x.take();
        x.take();
        x.image();
        x.end();
        e.due("two lay there", x.back(), 0);
        e.due("the third spoon of this DISH", x.take(), 7);
        x.end();
        x.back();
        e.due("two spoons", x.led(1), 2);
        x.goOn();
        x.take();
        e.due("they RUN", x.led(2), 20 - 4 - 3);
        x.goOn();
        e.due("they bar", x.take(), Edge.VOID);
        x.end();
        x.image();
        x.take();
        x.take();
        x.back();
        e.due("none lay there", x.led(1), 0);
        e.due("the first spoon of this DISH", x.take(), 9);
        x.back();
        x.goOn();
        x.take();
        e.due("none RUNS", x.led(2), 18);
        x.goOn();
        e.due("none bars", x.take(), 6);
    }

    private void take() {
        e.says("Promise 22", "TAKE a spoon: what it was worth. VOID: it MAY not be, or there is no DISH.");
        e.due("no DISH", new PastOnce().take(), Edge.VOID);
        e.due("no SPOONS", Laid.line("5 1 1 0 0").take(), Edge.VOID);
        e.due("one", Laid.line("5 1 1 1 0").take(), 5);
        e.due("just room", Laid.on(3, "5 1 3 1 0").take(), 5);
        e.due("no room", Laid.on(2, "5 1 3 1 0").take(), Edge.VOID);
        PastOnce x = Laid.mended(Laid.line("5 1 1 1 0", "5 1 1 1 1"), 0, 9, 2);
        x.take();
        x.goOn();
        e.due("barred", x.take(), Edge.VOID);
        isLed("nothing changed", x, 5, 1, 19, 0, 0, 1);
        e.due("it is still there", x.of(1, 3), 1);
        PastOnce y = Laid.line("0 9 1 9 0");
        for (int k = 0; k < 9; k++) {
            e.due("worth of spoon " + k, y.take(), -9 * k);
        }
        e.due("a tenth", y.take(), Edge.VOID);
    }

    private void goOnOf() {
        e.says("Promise 23", "GO ON: the DISH one is at then; NOT: the go is over. STATE: there are no DISHES.");
        PastOnce x = new PastOnce();
        e.due("no DISHES", x.goOn(), Edge.STATE);
        isLed("nothing changed", x, 0, 0, 20, 0, 0, 0);
        x.dish(53, 0);
        e.due("one DISH", x.goOn(), Edge.NOT);
        x.dish(53, 0);
        e.due("two DISHES", x.goOn(), 1);
        e.due("it is there", x.led(5), 1);
        e.due("behind it", x.goOn(), Edge.NOT);
        e.due("at 0", x.led(5), 0);
        e.due("goes", x.led(3), 2);
    }

    private void endOf() {
        e.says("Promise 24", "END: spoons that lay on the plate.");
        e.due("no DISHES", new PastOnce().end(), 0);
        PastOnce x = Laid.line("5 1 1 9 0", "5 1 1 9 0", "5 1 1 9 0");
        e.due("none", x.end(), 0);
        for (int dish = 0; dish < 2; dish++) {
            for (int k = 0; k < 9; k++) {
                x.take();
            }
            x.goOn();
        }
        x.take();
        e.due("nineteen", x.end(), 19);
        e.due("none then", x.end(), 0);
        x.goOn();
        x.goOn();
        x.take();
        e.due("one", x.end(), 1);
        x.goOn();
        x.goOn();
        x.take();
        x.goOn();
        e.due("none behind a go that was over", x.end(), 0);
    }

    private void ledOf() {
        e.says("Promise 25", "LED: worth (what 0), spoons (1), room left (2), goes that were over (3), worth of these (4), the DISH (5). VOID: BAD.");
        e.between("led(what)", 0, 5, Edge.VOID, what -> new PastOnce().led(what));
        PastOnce x = two();
        x.take();
        x.goOn();
        x.goOn();
        x.take();
        x.take();
        x.goOn();
        x.take();
        isLed("a second go", x, 5 + 4 + 8, 3, 10, 1, 5, 1);
    }

    private void imageOf() {
        e.says("Promise 26", "AN IMAGE is kept: the DISH.");
        PastOnce x = new PastOnce();
        e.due("no DISHES", x.image(), 0);
        for (int n = 0; n < 9; n++) {
            x.dish(11, 0);
        }
        for (int dish = 0; dish <= 8; dish++) {
            e.due("at " + dish, x.image(), dish);
            x.goOn();
        }
        e.due("the latest one", x.back(), 8);
    }

    private void back() {
        e.says("Promise 27", "It is laid back (SPOONS of DISHES that came since stay): the DISH. STATE: there is none.");
        PastOnce x = new PastOnce();
        e.due("there is none", x.back(), Edge.STATE);
        x.dish(51, 0);
        e.due("there is none yet", x.back(), Edge.STATE);
        x.take();
        x.image();
        x.dish(61, 0);
        x.mend(0, 3, 9);
        x.mend(1, 3, 7);
        x.goOn();
        x.take();
        e.due("laid back", x.back(), 0);
        e.due("SPOONS of the one that was there", x.of(0, 3), 3);
        e.due("SPOONS of the one that came since", x.of(1, 3), 6);
        e.due("on the plate", x.led(1), 1);
        x.goOn();
        x.goOn();
        e.due("laid back once more", x.back(), 0);
        e.due("goes", x.led(3), 0);
        PastOnce y = new PastOnce();
        y.image();
        y.dish(51, 0);
        y.take();
        e.due("of no DISHES", y.back(), 0);
        e.due("SPOONS of the one that came since", y.of(0, 3), 3);
        e.due("an empty plate", y.led(1), 0);
    }

    private void undo() {
        e.says("Promise 28", "UNDONE: how many may still be. STATE: none.");
        PastOnce x = two();
        e.due("none", x.undo(), Edge.STATE);
        x.mend(0, 0, 6);
        x.mend(0, 0, 7);
        e.due("of two", x.undo(), 1);
        e.due("of one", x.undo(), 0);
        e.due("of none", x.undo(), Edge.STATE);
        e.due("WORTH", x.of(0, 0), 5);
    }

    private void redo() {
        e.says("Promise 29", "DONE AGAIN: how many may still be. STATE: none.");
        PastOnce x = two();
        e.due("none", x.redo(), Edge.STATE);
        x.mend(0, 0, 6);
        x.mend(0, 0, 7);
        e.due("none was undone", x.redo(), Edge.STATE);
        x.undo();
        x.undo();
        e.due("of two", x.redo(), 1);
        e.due("of one", x.redo(), 0);
        e.due("of none", x.redo(), Edge.STATE);
        e.due("WORTH", x.of(0, 0), 7);
    }
}
