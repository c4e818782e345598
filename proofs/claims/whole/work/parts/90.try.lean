theorem nn_ddiv {a b : Int32} (h : b ≠ 0) : vf_n64 (FP.ddiv (FP.i2d a) (FP.i2d b)) := Jvm.Free.Fl.ddiv_out (Jvm.Free.Fl.i2d_fin a).noNaN (Jvm.Free.Fl.i2d_fin b) (Jvm.Free.Fl.i2d_nz h)
theorem nn_fdiv {a b : Int32} (h : b ≠ 0) : vf_n32 (FP.fdiv (FP.i2f a) (FP.i2f b)) := Jvm.Free.Fl.fdiv_out (Jvm.Free.Fl.i2f_fin a).noNaN (Jvm.Free.Fl.i2f_fin b) (Jvm.Free.Fl.i2f_nz h)
