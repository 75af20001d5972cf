/** A short walk through LabelKernel; README.md shows it and what it prints. */
public final class Tour {
    public static void main(String[] args) {
        LabelKernel k = new LabelKernel();         // object 1 is a container, object 2 a thread in it
        int category = k.category(2);              // thread 2 owns category 0 from now on
        int secret = k.label(0, category, 3);      // like label 0, but with level 3 in that category
        int segment = k.segment(2, 1, secret, 4);  // by thread 2, in container 1: 4 cells
        k.write(2, 1, segment, 0, 42);
        System.out.println("thread 2 reads " + k.read(2, 1, segment, 0));

        int plain = k.thread(2, 1, 0, 1);          // another thread, with label 0 and CLEARANCE label 1
        try {
            k.read(plain, 1, segment, 0);
        } catch (UnsupportedOperationException e) {
            System.out.println("thread " + plain + " may not see the segment");
        }

        int owner = k.object(2, 1);                // the label of thread 2: STAR in the category
        int gate = k.gate(2, 1, owner, 0, 77);     // who has label 0 may enter it and own the category
        System.out.println("the gate answers " + k.enter(plain, 1, gate, owner, 1));
        System.out.println("thread " + plain + " reads " + k.read(plain, 1, segment, 0));

        int home = k.user(2, 0, 1234);             // the library: user 0 with a password
        k.file(2, 0, 1, 8);                        // the user's file 1, of 8 cells
        int guest = k.thread(2, 1, 0, 1);
        k.login(guest, 0, 1234);
        k.access(guest, 0, 1, 5, true, 7);         // cell 5 of the file becomes 7

        System.out.println("a snapshot of " + k.snapshot() + " objects");
        System.out.println("a drop of " + k.drop(2, 1, home));
        System.out.println("a crash, and again " + k.crash());
        System.out.println("cell 5 is " + k.access(guest, 0, 1, 5, false, 0));
    }
}
