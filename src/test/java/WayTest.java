/** Promise 8: the way is strict or not, and tells what it was. */
public final class WayTest {
    public static void main(String[] args) {
        HazardRules x = Check.load(2, "from 0 class 1 when sum plus 1 of 0 over 5 end class 2 when sum plus 1 of 0 under 5 end");
        x.part(0, 4, 6);
        Check.due("run(0) at first", x.run(0), 2);
        Check.due("way(false)", x.way(false), true);
        Check.due("cls(1): as it was then", x.cls(1), 2);
        Check.due("run(0) not strict", x.run(0), 0);
        Check.due("way(false)", x.way(false), false);
        Check.due("walk(0) not strict", x.walk(0), 0);
        Check.due("way(true)", x.way(true), false);
        Check.due("way(true)", x.way(true), true);
        Check.due("run(0) strict", x.run(0), 2);
        Check.due("walk(0) strict", x.walk(0), 2);
        Check.end();
    }
}
