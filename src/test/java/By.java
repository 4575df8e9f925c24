/** The three ways, so that one test can go through them all. */
enum By {
    EIGHTS {
        int from(ScalarScribe x) {
            return x.fromEights();
        }

        int to(ScalarScribe x) {
            return x.toEights();
        }
    },
    SIXTEENS {
        int from(ScalarScribe x) {
            return x.fromSixteens();
        }

        int to(ScalarScribe x) {
            return x.toSixteens();
        }
    },
    LETTERS {
        int from(ScalarScribe x) {
            return x.fromLetters();
        }

        int to(ScalarScribe x) {
            return x.toLetters();
        }
    };

    abstract int from(ScalarScribe x);

    abstract int to(ScalarScribe x);
}
