import java.util.function.Supplier;

/** Learners to begin a test with: with nothing in them, with some of everything, and filled to the bounds. */
enum Starts {
    NEW(CountLearner::new, 0, 0),
    SOME(Starts::some, 100, 5),
    FULL(Starts::full, 1000000, 40);

    /** What table 1 holds. */
    final int rows;
    final int sights;
    private final Supplier<CountLearner> maker;

    Starts(Supplier<CountLearner> maker, int rows, int sights) {
        this.maker = maker;
        this.rows = rows;
        this.sights = sights;
    }

    CountLearner make() {
        return maker.get();
    }

    /** Sights that are kept, in quarrel and melted, that have aged, with a truth that agrees and ones that don't. */
    private static CountLearner some() {
        CountLearner x = new CountLearner();
        x.rows(0, 50);
        x.rows(1, 90);
        x.rows(2, 7);
        x.sight(0, 8, 16, 20, false);
        x.sight(1, 0, 8, 80, false);
        x.sight(1, 8, 16, 70, true);
        x.sight(1, 8, 16, 30, false);
        x.put(1, 20);
        x.strike(1, 10);
        x.sight(1, 10, 30, 40, false);
        x.begins(1, 1, 3, 9);
        x.room(1, 4);
        x.sight(2, 63, 64, 7, false);
        x.truth(0, 9, 20);
        x.truth(0, 63, 30);
        x.truth(1, 9, 11);
        x.truth(1, 63, 100000);
        x.truth(2, 63, 6);
        return x;
    }

    private static CountLearner full() {
        CountLearner x = new CountLearner();
        x.rows(0, 1000000);
        x.rows(1, 1000000);
        x.rows(2, 1000000);
        for (int s = 0; s < 40; s++) {
            x.sight(1, s, s + 1, s < 39 ? 1 : 1000000 - 39, false);
        }
        x.truth(0, 0, 100000);
        x.truth(1, 0, 100000);
        x.truth(2, 63, 100000);
        return x;
    }
}
