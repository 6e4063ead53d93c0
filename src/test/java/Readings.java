/** All that an object tells of itself, as one text: two objects in the same state have the same. */
final class Readings {
    private Readings() {
    }

    /** Takes at most 235 calls, so that it may be called once on an object that is used for 512. */
    static String of(TramRibbon x) {
        StringBuilder all = new StringBuilder("count");
        for (int what = 0; what <= 10; what++) {
            all.append(' ').append(x.count(what));
        }
        int poles = x.count(1);
        for (int pole = 0; pole < poles; pole++) {
            all.append("; pole ").append(pole).append(':');
            for (int what = 0; what <= 3; what++) {
                all.append(' ').append(x.pole(pole, what));
            }
        }
        all.append("; sections of spans:");
        for (int span = 0; span < poles - 1; span++) {
            all.append(' ').append(x.sectionOf(span));
        }
        int sections = x.count(2);
        for (int section = 0; section < sections; section++) {
            all.append("; section ").append(section).append(':');
            for (int what = 0; what <= 5; what++) {
                all.append(' ').append(x.section(section, what));
            }
        }
        int cars = x.count(4);
        for (int car = 0; car < cars; car++) {
            all.append("; car ").append(car).append(':');
            for (int what = 0; what <= 7; what++) {
                all.append(' ').append(x.car(car, what));
            }
        }
        // The slopes are told by the checksum alone.
        return all.append("; mean ").append(x.mean()).append("; digest ").append(x.digest()).toString();
    }
}
