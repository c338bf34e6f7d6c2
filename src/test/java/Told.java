/** The calls of the document, each answered by a text: the answer, or the name of the exception. */
interface Told {
    String run(int start, int minutes, int charge);

    String lead(int dispatcher, int minutes);

    String order(int dispatcher, int mark, int run, int bus, int driver);

    String breaks(int bus, boolean isBroken);

    String ails(int driver, boolean isIll);

    String plug(int bus, int charger);

    String advance(int minutes);

    String minute();

    String leader();

    String runs();

    String orders();

    String orderAt(int order);

    String stateOf(int run);

    String busOf(int run);

    String driverOf(int run);

    String charge(int bus);

    String promised(int bus);

    String minutesOf(int driver, int day);
}
