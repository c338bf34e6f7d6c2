public final class Promise09MinuteTest {
    public static void main(String[] args) {
        Check check = new Check();
        DepotLog x = new DepotLog();
        check.same("at first", x.minute(), 0);
        check.same("asked again", x.minute(), 0);
        x.advance(1);
        check.same("a minute", x.minute(), 1);
        x.advance(1000);
        check.same("1000 minutes more", x.minute(), 1001);
        x.run(2000, 10, 10);
        x.lead(0, 500);
        x.order(0, 1, 0, 0, 0);
        x.plug(0, 0);
        x.breaks(1, true);
        x.ails(1, true);
        check.same("no other call lets time pass", x.minute(), 1001);
        Check.thrownBy(() -> x.advance(0));
        check.same("nor does one that throws", x.minute(), 1001);
        check.end();
    }
}
