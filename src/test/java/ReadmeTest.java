/** README.md's examples answer what it says. */
public final class ReadmeTest {
    private static final Check check = new Check();

    public static void main(String[] args) {
        RemoteReach x = writes();
        sendsAMessage(x);
        check.end();
    }

    private static RemoteReach writes() {
        RemoteReach x = new RemoteReach(5, 2, 2);
        x.region(1, 0, 4, 10, 3);
        x.store(0, 0, 11);
        x.ready(0, 62, 7);
        x.ready(1, 7, 62);
        x.move(0, false, 0, 5, 0, 6);
        check.same("the first packet", 62, x.push(0));
        check.same("the second packet", 63, x.push(0));
        check.same("no more", RemoteReach.NONE, x.push(0));
        Links.deliverAll(x);
        check.same("the cell there", 11, x.cell(1, 6));
        check.same("the WRITE is done", 0, x.poll(0, 3));
        check.same("its completion is taken away", 0, x.poll(0, -1));
        check.same("completions", 0, x.completions(0));
        return x;
    }

    private static void sendsAMessage(RemoteReach x) {
        x.receive(1, 20, 6);
        x.send(0, 0, 1);
        check.same("the number behind 63", 0, x.push(0));
        check.yes("the packet is lost", x.spoil(0, false));
        check.same("nothing to send before the timeout", RemoteReach.NONE, x.push(0));
        Links.tick(x, 5);
        check.same("sent again", 0, x.push(0));
        Links.deliverAll(x);
        check.same("the cell came", 11, x.cell(1, 20));
        check.same("one cell came", 1, x.poll(1, 4));
    }
}
