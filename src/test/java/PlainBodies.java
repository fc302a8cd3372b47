import java.util.List;

/** The BODIES of the document as the Java classes that it tells of. */
final class PlainBodies {
    private PlainBodies() { }

    interface Parts {
        int number();

        void began(int body);

        default int parts(int x) {
            began(1);
            return x + number();
        }
    }

    interface Learns {
        int sends(int x);

        int wins(int x);

        void began(int body);

        default int learns(int x) {
            began(2);
            return sends(x) - wins(1);
        }
    }

    static class Baker implements Parts, Learns {
        int number;
        int kind;
        List<Integer> trace;

        public int number() {
            return number;
        }

        public void began(int body) {
            trace.add(body);
        }

        public int sends(int x) {
            began(10);
            return parts(x) * 2;
        }

        public int wins(int x) {
            began(11);
            return x ^ number;
        }
    }

    static class Even extends Baker {
        public int parts(int x) {
            began(20);
            return super.parts(x) + 3;
        }
    }

    static class Few extends Baker {
        public int sends(int x) {
            began(30);
            return -super.sends(x);
        }
    }

    static class Chance extends Few {
        public int wins(int x) {
            began(40);
            return super.wins(x) * 3;
        }

        public int sends(int x) {
            began(41);
            return super.sends(x + 1);
        }
    }

    static class Best extends Even {
        public int learns(int x) {
            began(50);
            return super.learns(x) ^ 5;
        }
    }

    static class Learn extends Best {
        public int wins(int x) {
            began(60);
            return super.wins(x) - parts(2);
        }

        public int learns(int x) {
            began(61);
            return super.learns(x) + 1;
        }
    }

    static class Told extends Baker {
        public int parts(int x) {
            began(70);
            return super.parts(x) * 2;
        }
    }

    static class Fool extends Told {
        public int sends(int x) {
            began(80);
            return super.sends(x) + wins(2);
        }

        public int parts(int x) {
            began(81);
            return super.parts(x) - 1;
        }
    }

    private static final Class<?>[] KINDS = {
        Baker.class, Even.class, Few.class, Chance.class, Best.class, Learn.class, Told.class, Fool.class};

    static Class<?> kindClass(int kind) {
        return KINDS[kind];
    }

    static Baker make(int kind, int number) {
        Baker[] one = {new Baker(), new Even(), new Few(), new Chance(), new Best(), new Learn(), new Told(), new Fool()};
        one[kind].kind = kind;
        one[kind].number = number;
        return one[kind];
    }
}
