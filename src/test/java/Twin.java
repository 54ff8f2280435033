import java.util.ArrayList;
import java.util.List;

/** Objects of one and the same past, of which one is then asked for more: 'nothing happens' is that both stay alike. */
final class Twin {
    /** 7 FIELDS, 6 PEOPLE, 10 HEDGES, 6 HEIRS: full. */
    static final String TEXT = "field fa;field fb;field fc;field fd;field fe;field ff;field fg;"
        + "person pa 85;person pb 30;person pc 20;person pd 5;person pe 40;person pf 99;"
        + "hedge fa fb pa pb 10;hedge fb fc pa pc 20;hedge fc fd pc pd 5;hedge fd fe pd pe 7;hedge fe ff pe pe 50;"
        + "hedge ff fg pf pa 3;hedge fa fg pb pf 99;hedge fa fc pb pe 0;hedge fb fd pd pb 30;hedge fc fg pe pf 60;"
        + "heirs pa pb pc;heirs pb pa pd;heirs pc pd pe;heirs pd pa pb;heirs pe pa pb;heirs pa pb pc;"
        + "grows=2;dies=if age<90 then 0 else 100;falls=high-70;costs=high+which;seed 77;";

    /** What is asked for of an object. */
    interface Deed {
        long on(FenceSides x);
    }

    private Twin() {
    }

    /** Year 3: pf is dead, HEDGE 6 has a GAP, three FACES were nobody's, pb and pc are married, SLOTS 1 and 2 hold something. */
    static FenceSides rich() {
        FenceSides x = Check.of(TEXT);
        x.years(1);
        x.marry(1, 2);
        x.clip(0, 0);
        x.sell(9, 1, 3);
        x.hold(1);
        x.years(2);
        x.close(4, 4);
        x.hold(2);
        x.tell(0, 0, 1, true);
        x.tell(1, 1, 2, false);
        x.tell(5, 1, 0, true);
        x.feed(0, 1, 2, 3, 4);
        return x;
    }

    /** A call that is refused: its answer, and that nothing happens by it. */
    static void refused(String what, long answer, Deed call) {
        FenceSides x = rich();
        Check.due(what, call.on(x), answer);
        alike(what + ": nothing happens", x, rich());
    }

    static void alike(String what, FenceSides x, FenceSides y) {
        List<String> labels = new ArrayList<>();
        List<Long> mine = new ArrayList<>();
        List<Long> others = new ArrayList<>();
        tellAll(x, labels, mine);
        labels.clear();
        tellAll(y, labels, others);
        Check.due(what + ", as much to tell", mine.size(), others.size());
        for (int i = 0; i < mine.size() && i < others.size(); i++) {
            Check.due(what + ", " + labels.get(i), mine.get(i), others.get(i));
        }
    }

    private static void tellAll(FenceSides x, List<String> labels, List<Long> values) {
        for (int what = 0; what <= 17; what++) {
            add(labels, values, "count(" + what + ")", x.count(what));
        }
        for (int h = 0; h < x.count(2); h++) {
            for (int what = 0; what <= 9; what++) {
                add(labels, values, "hedge(" + h + ", " + what + ")", x.hedge(h, what));
            }
        }
        for (int p = 0; p < x.count(1); p++) {
            for (int what = 0; what <= 6; what++) {
                add(labels, values, "person(" + p + ", " + what + ")", x.person(p, what));
            }
        }
        for (int k = 0; k <= x.count(10); k++) {
            add(labels, values, "died(" + k + ", 1)", x.died(k, 1));
        }
        for (int turn = 1; turn <= 12; turn++) {
            boolean undone = x.undo();
            add(labels, values, "undo " + turn, undone ? 1 : 0);
            if (undone) {
                digest(x, labels, values, "undo " + turn);
            }
        }
        for (int slot = 0; slot < 3; slot++) {
            boolean gone = x.restore(slot);
            add(labels, values, "restore " + slot, gone ? 1 : 0);
            if (gone) {
                digest(x, labels, values, "restore " + slot);
            }
        }
    }

    private static void digest(FenceSides x, List<String> labels, List<Long> values, String when) {
        for (int what : new int[] {3, 4, 5, 6, 7, 12, 13, 14, 15}) {
            add(labels, values, "count(" + what + ") behind " + when, x.count(what));
        }
    }

    private static void add(List<String> labels, List<Long> values, String label, long value) {
        labels.add(label);
        values.add(value);
    }
}
