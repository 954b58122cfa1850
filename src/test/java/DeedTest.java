/** Promises 22 to 29: take, goOn, end, led, image, back, undo, redo. */
public final class DeedTest {
    private static final Check C = new Check("DeedTest");

    public static void main(String[] args) {
        take();
        takeWithRuns();
        takeWithBars();
        platesStayAsTheyWere();
        goOn();
        end();
        endOfRuns();
        led();
        image();
        imageAndChanges();
        undo();
        redo();
        fortyChanges();
        C.finish();
    }

    private static PastOnce two() {
        PastOnce x = new PastOnce();
        x.dish(53, 0);
        x.dish(84, 1);
        return x;
    }

    private static PastOnce three() {
        PastOnce x = two();
        x.dish(31, 2);
        return x;
    }

    private static void take() {
        PastOnce x = new PastOnce();
        C.due("22: no DISH", x.take(), PastOnce.VOID);
        x = two();
        for (int worth = 5; worth >= 2; worth--) {
            C.due("22: worth", x.take(), worth);
        }
        C.due("22: none is there", x.take(), PastOnce.VOID);
        C.due("22: one less each", x.of(0, 3), 0);
        x.goOn();
        C.due("22: 8 of room: 8", x.take(), 8);
        C.due("22: 4 of room: 7", x.take(), 7);
        C.due("22: full", x.take(), PastOnce.VOID);
        C.due("22: two are left", x.of(1, 3), 2);
        C.due("22: a deed is no change", x.count(3), 0);
        x.end();
        x.goOn();
        C.due("22: a new plate, the first spoon again", x.take(), 8);
        x = two();
        x.mend(0, 1, 9);
        x.take();
        C.due("22: below 0", x.take(), -4);
    }

    private static void takeWithRuns() {
        PastOnce x = two();
        x.mend(0, 5, 1);
        x.mend(0, 8, 11);
        x.take();
        x.take();
        C.due("22: not of itself", x.led(2), 5);
        x.goOn();
        x.take();
        C.due("22: 1 more", x.led(2), 0);
        x = two();
        x.mend(0, 5, 1);
        x.mend(0, 8, 7);
        x.take();
        x.goOn();
        C.due("22: 1 more does not fit", x.take(), PastOnce.VOID);
    }

    private static void takeWithBars() {
        PastOnce x = two();
        x.mend(1, 9, 1);
        x.take();
        C.due("22: its own go on", x.take(), 4);
        x.goOn();
        C.due("22: barred", x.take(), PastOnce.VOID);
        x.mend(1, 9, 0);
        C.due("22: no longer", x.take(), 8);
        x = two();
        x.mend(1, 4, 0);
        x.mend(0, 9, 1);
        x.take();
        C.due("22: one DISH of it alone", x.take(), 4);
        x.goOn();
        C.due("22: not the other", x.take(), PastOnce.VOID);
    }

    private static void platesStayAsTheyWere() {
        PastOnce x = two();
        x.take();
        x.mend(0, 0, 20);
        x.mend(0, 2, 9);
        C.due("22: worth as it was", x.led(0), 5);
        C.due("22: room as it was", x.led(2), 17);
        C.due("22: the next one as it is now", x.take(), 19);
        C.due("22: and its room", x.led(2), 8);
        x = two();
        x.mend(0, 9, 2);
        x.take();
        x.mend(0, 4, 2);
        C.due("22: of the same DISH nothing hinders", x.take(), 4);
        x.goOn();
        C.due("22: its SORT as it was bars", x.take(), PastOnce.VOID);
        x.mend(0, 9, 0);
        x.mend(2, 9, 2);
        C.due("22: so does the SORT that it had later", x.take(), PastOnce.VOID);
        x.mend(2, 9, 0);
        C.due("22: no more", x.take(), 8);
        x = two();
        x.mend(0, 5, 1);
        x.take();
        x.mend(0, 5, 0);
        x.goOn();
        x.take();
        C.due("22: it ran as it was taken", x.led(2), 20 - 3 - 5);
        x.mend(0, 8, 5);
        C.due("22: a smaller PLATE: nothing fits", x.take(), PastOnce.VOID);
    }

    private static void goOn() {
        PastOnce x = new PastOnce();
        C.due("23: no DISHES", x.goOn(), PastOnce.STATE);
        x = two();
        x.take();
        C.due("23: the next", x.goOn(), 1);
        C.due("23: the go is over", x.goOn(), PastOnce.NOT);
        C.due("23: at 0 again", x.led(5), 0);
        C.due("23: an empty plate", x.led(1), 0);
        C.due("23: one go", x.led(3), 1);
        C.due("23: its worth", x.led(4), 5);
        C.due("23: spoons do not come back", x.of(0, 3), 3);
        x.take();
        x.goOn();
        x.take();
        x.goOn();
        C.due("23: two goes", x.led(3), 2);
        C.due("23: worth of both", x.led(4), 5 + 5 + 8);
    }

    private static void endOfRuns() {
        PastOnce x = three();
        x.mend(0, 5, 1);
        x.take();
        x.goOn();
        x.goOn();
        C.due("23: it still runs two DISHES on", x.take(), 3);
        C.due("23: 1 more", x.led(2), 20 - 3 - 2);
        x.end();
        x.goOn();
        x.take();
        C.due("24: nothing runs on a new plate", x.led(2), 20 - 4);
        x.end();
        x.take();
        x.end();
        x.goOn();
        x.take();
        C.due("24: nor what was taken last", x.led(2), 20 - 4);
    }

    private static void end() {
        PastOnce x = new PastOnce();
        C.due("24: nothing", x.end(), 0);
        x = two();
        x.take();
        x.take();
        x.goOn();
        x.take();
        C.due("24: three lay there", x.end(), 3);
        C.due("24: none now", x.end(), 0);
        C.due("24: at 0", x.led(5), 0);
        C.due("24: all the room", x.led(2), 20);
        C.due("24: worth 0", x.led(0), 0);
        C.due("24: no go that was over", x.led(3), 0);
        C.due("24: nor its worth", x.led(4), 0);
    }

    private static void led() {
        PastOnce x = new PastOnce();
        int[] first = {0, 0, 20, 0, 0, 0};
        for (int what = 0; what <= 5; what++) {
            C.due("25: at first", x.led(what), first[what]);
        }
        x = two();
        x.take();
        x.take();
        x.goOn();
        x.take();
        int[] then = {17, 3, 10, 0, 0, 1};
        for (int what = 0; what <= 5; what++) {
            C.due("25: led(" + what + ")", x.led(what), then[what]);
        }
        C.due("25: what 6", x.led(6), PastOnce.VOID);
        C.due("25: what -1", x.led(-1), PastOnce.VOID);
    }

    private static void image() {
        PastOnce x = new PastOnce();
        C.due("27: none", x.back(), PastOnce.STATE);
        C.due("26: with nothing", x.image(), 0);
        C.due("27: with nothing", x.back(), 0);
        x = two();
        x.goOn();
        x.goOn();
        x.take();
        x.goOn();
        x.take();
        C.due("26: the DISH", x.image(), 1);
        x.take();
        x.goOn();
        x.take();
        C.due("27: the DISH", x.back(), 1);
        int[] then = {13, 2, 13, 1, 0, 1};
        for (int what = 0; what <= 5; what++) {
            C.due("27: led(" + what + ")", x.led(what), then[what]);
        }
        C.due("27: SPOONS of 0", x.of(0, 3), 3);
        C.due("27: SPOONS of 1", x.of(1, 3), 3);
        C.due("27: the second one of it", x.take(), 7);
        C.due("27: once more", x.back(), 1);
        C.due("27: as before", x.led(1), 2);
        x.end();
        C.due("26: a later one", x.image(), 0);
        x.goOn();
        C.due("27: that one", x.back(), 0);
        C.due("27: with an empty plate", x.led(1), 0);
    }

    private static void imageAndChanges() {
        PastOnce x = two();
        x.image();
        x.dish(11, 0);
        x.mend(2, 3, 7);
        x.mend(0, 3, 9);
        x.mend(0, 0, 6);
        x.mend(0, 8, 30);
        x.back();
        C.due("27: SPOONS as they were", x.of(0, 3), 4);
        C.due("27: of one that came since they stay", x.of(2, 3), 7);
        C.due("27: WORTH stays mended", x.of(0, 0), 6);
        C.due("27: PLATE stays mended", x.led(2), 30);
        C.due("27: the DISH stays", x.count(0), 3);
        C.due("27: changes stay", x.count(3), 4);
        x = two();
        x.mend(0, 5, 1);
        x.take();
        x.image();
        x.end();
        x.back();
        x.goOn();
        x.take();
        C.due("27: what ran lies there again", x.led(2), 20 - 3 - 5);
        x = three();
        x.mend(0, 5, 1);
        x.mend(0, 9, 4);
        x.take();
        x.goOn();
        x.take();
        x.image();
        x.end();
        x.back();
        C.due("27: the next one of it", x.take(), 7);
        C.due("27: 1 more for what ran ahead", x.led(2), 20 - 3 - 5 - 5);
        x.goOn();
        C.due("27: barred by what lies there again", x.take(), PastOnce.VOID);
        x = three();
        x.mend(0, 9, 2);
        x.take();
        x.image();
        x.end();
        x.back();
        x.goOn();
        C.due("27: barred by what was taken last", x.take(), PastOnce.VOID);
        x.end();
        x.goOn();
        C.due("24: barred no more", x.take(), 8);
    }

    private static void undo() {
        PastOnce x = two();
        C.due("28: none", x.undo(), PastOnce.STATE);
        x.mend(0, 0, 7);
        x.mend(0, 8, 33);
        x.mend(3, 9, 5);
        x.mend(1, 7, 2);
        C.due("28: telling the same is none", x.mend(1, 7, 2), 2);
        C.due("28: four", x.count(3), 4);
        C.due("28: CHANCE", x.undo(), 3);
        C.due("28: it is as it was", x.of(1, 7), 12);
        C.due("28: BARS", x.undo(), 2);
        C.due("28: they are as they were", x.of(3, 9), 0);
        C.due("28: PLATE", x.undo(), 1);
        C.due("28: it is as it was", x.of(0, 8), 20);
        C.due("28: WORTH", x.undo(), 0);
        C.due("28: it is as it was", x.of(0, 0), 5);
        C.due("28: none left", x.undo(), PastOnce.STATE);
        C.due("28: none left", x.count(3), 0);
        x.mend(0, 3, 9);
        x.take();
        C.due("28: SPOONS with a deed since", x.undo(), 0);
        C.due("28: they are as ahead of the change", x.of(0, 3), 4);
        C.due("28: the plate stays", x.led(1), 1);
    }

    private static void redo() {
        PastOnce x = two();
        C.due("29: none", x.redo(), PastOnce.STATE);
        x.mend(0, 0, 7);
        x.mend(0, 0, 9);
        x.mend(0, 1, 3);
        x.undo();
        x.undo();
        x.undo();
        C.due("29: the first again", x.redo(), 2);
        C.due("29: it is so", x.of(0, 0), 7);
        x.take();
        x.dish(11, 0);
        x.mend(0, 0, 7);
        C.due("29: deeds, DISHES and the same number are no changes", x.redo(), 1);
        C.due("29: it is so", x.of(0, 0), 9);
        x.mend(1, 0, 1);
        C.due("29: another came behind", x.redo(), PastOnce.STATE);
        C.due("29: three may be undone", x.count(3), 3);
        C.due("29: BAD is none", x.mend(1, 0, 21), PastOnce.BAD);
        x.undo();
        x.mend(9, 0, 0);
        C.due("29: after what was refused", x.redo(), 0);
    }

    private static void fortyChanges() {
        PastOnce x = two();
        for (int i = 1; i <= 43; i++) {
            x.mend(0, 6, 10 + i);
        }
        C.due("28: forty at most", x.count(3), 40);
        for (int left = 39; left >= 0; left--) {
            C.due("28: how many", x.undo(), left);
        }
        C.due("28: the three oldest stay", x.of(0, 6), 13);
        C.due("28: no more", x.undo(), PastOnce.STATE);
        for (int left = 39; left >= 0; left--) {
            C.due("29: how many", x.redo(), left);
        }
        C.due("29: all again", x.of(0, 6), 53);
        for (int i = 1; i <= 43; i++) {
            x.mend(i % 2, i % 3, i % 5 + 1);
        }
        int[] before = {x.of(0, 0), x.of(0, 1), x.of(0, 2), x.of(1, 0), x.of(1, 1), x.of(1, 2)};
        int may = x.count(3);
        for (int i = 0; i < may; i++) {
            x.undo();
        }
        C.due("28: the oldest of many sorts", x.of(0, 6), 53);
        for (int i = 0; i < may; i++) {
            x.redo();
        }
        int[] again = {x.of(0, 0), x.of(0, 1), x.of(0, 2), x.of(1, 0), x.of(1, 1), x.of(1, 2)};
        for (int i = 0; i < 6; i++) {
            C.due("29: many sorts again", again[i], before[i]);
        }
        C.due("29: no more", x.redo(), PastOnce.STATE);
    }
}
