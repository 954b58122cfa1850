import java.util.List;

/** The KINDS of the document as classes of Java itself, so that Java says which body runs. */
final class SlowBodies {
    interface Takes {
        int number();

        void ran(int body);

        default int takes(int x) {
            ran(1);
            return x + number();
        }
    }

    interface Tells {
        void ran(int body);

        int goes(int x);

        int sees(int x);

        default int tells(int x) {
            ran(2);
            return goes(x) - sees(1);
        }
    }

    static class Taker implements Takes, Tells {
        int n;
        List<Integer> trace;

        public int number() {
            return n;
        }

        public void ran(int body) {
            trace.add(body);
        }

        public int goes(int x) {
            ran(10);
            return takes(x) * 2;
        }

        public int sees(int x) {
            ran(11);
            return x ^ n;
        }
    }

    static class Greedy extends Taker {
        public int takes(int x) {
            ran(20);
            return super.takes(x) + 3;
        }
    }

    static class Shy extends Taker {
        public int goes(int x) {
            ran(30);
            return -super.goes(x);
        }
    }

    static class Seer extends Shy {
        public int sees(int x) {
            ran(40);
            return super.sees(x) * 3;
        }

        public int goes(int x) {
            ran(41);
            return super.goes(x + 1);
        }
    }

    static class Heard extends Greedy {
        public int tells(int x) {
            ran(50);
            return super.tells(x) ^ 5;
        }
    }

    static class Best extends Seer {
        public int sees(int x) {
            ran(60);
            return super.sees(x) - takes(2);
        }

        public int tells(int x) {
            ran(61);
            return super.tells(x) + 1;
        }
    }

    static class Again extends Taker {
        public int takes(int x) {
            ran(70);
            return super.takes(x) * 2;
        }
    }

    static class Crossed extends Again {
        public int goes(int x) {
            ran(80);
            return super.goes(x) + sees(2);
        }

        public int takes(int x) {
            ran(81);
            return super.takes(x) - 1;
        }
    }

    static final List<Class<? extends Taker>> CLASSES = List.of(Taker.class, Greedy.class, Shy.class, Seer.class,
            Heard.class, Best.class, Again.class, Crossed.class);

    static Taker make(int kind, int number, List<Integer> trace) {
        Taker b;
        switch (kind) {
            case 0: b = new Taker(); break;
            case 1: b = new Greedy(); break;
            case 2: b = new Shy(); break;
            case 3: b = new Seer(); break;
            case 4: b = new Heard(); break;
            case 5: b = new Best(); break;
            case 6: b = new Again(); break;
            default: b = new Crossed(); break;
        }
        b.n = number;
        b.trace = trace;
        return b;
    }

    private SlowBodies() {
    }
}
