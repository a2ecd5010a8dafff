import java.util.Arrays;

/** All that can be seen of what is told to an object, as a row of answers. */
final class Look {
    private static final int MOST = 512;

    private final BentScreens x;
    private final int[] row = new int[MOST];
    private int size = 0;

    private Look(BentScreens x) {
        this.x = x;
    }

    private void add(int answer) {
        row[size] = answer;
        size++;
    }

    private void add(boolean answer) {
        add(answer ? 1 : 0);
    }

    /** Some 330 calls; the tape is taken by the last ones, and images are made use of. */
    static int[] at(BentScreens x) {
        Look look = new Look(x);
        look.add(x.fault(0));
        look.add(x.fault(1));
        look.all();
        look.tape();
        look.images();
        return Arrays.copyOf(look.row, look.size);
    }

    /** The same without the tape and the FAULT, which a text that is refused changes. */
    static int[] besideTape(BentScreens x) {
        Look look = new Look(x);
        look.all();
        look.images();
        return Arrays.copyOf(look.row, look.size);
    }

    /** What is told, by questions alone: some 210 calls that change nothing. */
    static int[] asked(BentScreens x) {
        Look look = new Look(x);
        look.all();
        return Arrays.copyOf(look.row, look.size);
    }

    private void all() {
        for (int what = 0; what < 19; what++) {
            add(x.count(what));
        }
        film();
        net();
        lamps();
        hands();
        laws();
        add(x.barred());
        add(x.price());
    }

    private void film() {
        for (int layer = 0; layer < 3; layer++) {
            for (int what = 0; what < 4; what++) {
                add(x.layer(layer, what));
            }
            add(x.tired(layer, 1));
            add(x.tired(layer, 2));
            add(x.cracks(layer));
        }
        add(x.least());
        add(x.order(0));
        add(x.value(0, 0, x.count(7), x.count(8)));
        add(x.panels());
        for (int k = 0; k < 4; k++) {
            for (int what = 0; what < 3; what++) {
                add(x.panel(k, what));
            }
        }
    }

    private void net() {
        for (int row = 0; row < 6; row++) {
            for (int column = 0; column < 6; column++) {
                if (column < 5) {
                    add(x.leads(false, row, column));
                }
                if (row < 5) {
                    add(x.leads(true, row, column));
                }
            }
            add(x.fed(row));
        }
        for (int what = 0; what < 5; what++) {
            add(x.cut(what));
        }
        for (int what = 0; what < 3; what++) {
            add(x.mend(what));
        }
    }

    private void lamps() {
        for (int row = 0; row < 6; row++) {
            for (int column = 0; column < 6; column++) {
                add(x.left(row, column));
            }
        }
        add(x.damp(0, 0));
        add(x.damp(1, 1));
        add(x.darks());
        for (int shift = 0; shift < 6; shift++) {
            add(x.lasts(shift));
        }
    }

    private void hands() {
        for (int hand = 0; hand < 4; hand++) {
            for (int years = 0; years < 4; years++) {
                add(x.broken(hand, years));
            }
        }
        for (int years = 0; years < 4; years++) {
            add(x.share(years));
        }
    }

    private void laws() {
        add(x.kept());
        add(x.law(0));
        for (int speed = 1; speed <= 9; speed += 4) {
            add(x.span(speed, false));
            add(x.span(speed, true));
        }
        for (int k = 0; k < 3; k++) {
            add(x.quarrel(k));
            add(x.next(k));
        }
    }

    private void tape() {
        add(x.film());
        add(x.fault(0));
        add(x.fault(1));
        add(x.count(5));
        add(x.count(6));
        add(x.count(14));
    }

    private void images() {
        for (int k = 0; k < 3; k++) {
            boolean made = x.again(k);
            add(made);
            if (!made) {
                continue;
            }
            add(x.fault(1));
            add(x.kept());
            add(x.most());
            for (int what = 9; what < 18; what++) {
                add(x.count(what));
            }
        }
    }
}
