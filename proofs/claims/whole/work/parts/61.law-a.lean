/-! THE LAW: what class and reference have in common -/
set_option maxHeartbeats 4000000 in
set_option maxRecDepth 100000 in
def LI (D : va_G) (cI cB cJ cR : ClassId) (A : Nat → Prop) (cd mm : Nat) (H : Heap) : Prop := ∃ (rq : Nat) (wt : Nat) (wq : Nat) (mi : Nat) (mo : Nat) (ft : Nat) (ot : Nat) (gt : Nat) (Ah : Nat) (Bh : Nat) (wr : Nat) (s1 : Nat) (s2 : Nat) (t0 : Int32) (t1 : Int32) (t2 : Int32) (t3 : Int32) (r0 : Nat) (r1 : Nat) (r2 : Nat) (r3 : Nat) (o0 : Nat) (n0 : Nat) (f0 : Nat → Int32) (o1 : Nat) (n1 : Nat) (f1 : Nat → Int32) (o2 : Nat) (n2 : Nat) (f2 : Nat → Int32) (o3 : Nat) (n3 : Nat) (f3 : Nat → Int32) (Arm : Nat) (Arg : Nat) (Acf : Nat) (Acd : Nat) (Ack : Nat) (Aca : Nat) (Anr : Nat) (Asr : Nat) (Adl : Nat) (Asp : Nat) (Af0 : Int32) (Apl0 : Int32) (Awn0 : Int32) (Ask : Int32) (Ass : Int32) (Asm : Int32) (Awf : Int32) (Awe : Int32) (Ao : Nat) (Ay1 : Int32) (Ay2 : Int32) (Amo : Nat) (Amn : Nat) (Amf : Nat → Int32) (Agf : Nat → Int32) (Aon : Nat) (Aos : Nat) (Ax1 : Int32) (Ax2 : Int32) (Ax3 : Int32) (Afn : Nat → Int32) (Afs : Nat → Int32) (Adq1 : Nat) (Adq2 : Int32) (Adq3 : Int32) (Akq1 : Nat) (Akq2 : Int32) (Akq3 : Int32) (Aaq1 : Nat) (Aaq2 : Int32) (Aaq3 : Int32) (Brm : Nat) (Brg : Nat) (Bcf : Nat) (Bcd : Nat) (Bck : Nat) (Bca : Nat) (Bnr : Nat) (Bsr : Nat) (Bdl : Nat) (Bsp : Nat) (Bf0 : Int32) (Bpl0 : Int32) (Bwn0 : Int32) (Bsk : Int32) (Bss : Int32) (Bsm : Int32) (Bwf : Int32) (Bwe : Int32) (Bo : Nat) (By1 : Int32) (By2 : Int32) (Bmo : Nat) (Bmn : Nat) (Bmf : Nat → Int32) (Bgf : Nat → Int32) (Bon : Nat) (Bos : Nat) (Bx1 : Int32) (Bx2 : Int32) (Bx3 : Int32) (Bfn : Nat → Int32) (Bfs : Nat → Int32) (Bdq1 : Nat) (Bdq2 : Int32) (Bdq3 : Int32) (Bkq1 : Nat) (Bkq2 : Int32) (Bkq3 : Int32) (Baq1 : Nat) (Baq2 : Int32) (Baq3 : Int32) (fr : Nat) (fh : Nat) (fn_ : Nat) (fo : Nat) (ff : Nat → Int32) (fhf : Nat → Int32) (fnf : Nat → Int32) (ur : Nat) (near : Nat) (same : Nat) (uh : Nat) (un : Nat) (uo : Nat) (uf : Nat → Int32) (uhf : Nat → Int32) (unf : Nat → Int32) (gr : Nat) (gn : Int32) (gs : Int32) (gh : Nat) (gx : Nat) (go : Nat) (gk : Nat) (gv : Int32) (gsf : Nat → Int32) (mio : Nat) (min_ : Nat) (miv : Int32) (mif : Nat → Int32) (mof : Nat → Int32) (wto : Nat) (wn : Nat) (wv : Int32) (wf_ : Nat → Int32) (wqo : Nat) (qn : Nat) (qv : Int32) (qf : Nat → Int32) (Vda : Nat) (Vco : Nat) (Vaa : Nat) (Vnr : Nat) (Vfi : Nat) (Vou : Nat) (Vsp : Nat) (Vw0 : Int32) (Vw1 : Int32) (Vw2 : Int32) (Vw3 : Int32) (Vw4 : Int32) (Vqu : Nat) (Vqn : Nat) (Vqs : Nat) (Vqt : Nat) (Vqw : Nat) (Vqx : Nat) (Vsrt : Int32) (Vfe : Int32) (Vsv : Int32) (Vfz : Int32) (Vfa : Int32) (Vuf : Nat → Int32) (Vfxn : Nat → Int32) (Vshf : Nat → Int32) (Vstf : Nat → Int32) (Vwhf : Nat → Int32) (Vwtf : Nat → Int32) (Vdq : Nat) (Vn1 : Nat) (Vv1 : Int32) (Vf1 : Nat → Int32) (Vaq : Nat) (Vn2 : Nat) (Vv2 : Int32) (Vf2 : Nat → Int32) (Vcq : Nat) (Vn3 : Nat) (Vv3 : Int32) (Vf3 : Nat → Int32) (Von : Nat) (Vos : Nat) (Vx1 : Int32) (Vx2 : Int32) (Vx3 : Int32) (Vfn : Nat → Int32) (Vfs : Nat → Int32) (c1 : Nat) (k1 : Nat) (g1f : Nat → Int32) (c2 : Nat) (k2 : Nat) (g2f : Nat → Int32) (g : Nat → Value) (Mrows : Nat) (mrows : Nat → Int32) (Msizes : Nat) (msizes : Nat → Int32) (Mfirst : Nat) (mfirst : Nat → Int32) (Mown : Nat) (mown : Nat → Int32) (Mtab : Nat) (mtab : Nat → Int32) (Mnears : Nat) (mnears : Nat → Int64) (Msames : Nat) (msames : Nat → Int64) (MiKind : Nat) (miKind : Nat → Int32) (MiSize : Nat) (miSize : Nat → Int32) (MiAddress : Nat) (miAddress : Nat → Int32) (MiMode : Nat) (miMode : Nat → Int32) (MiCode : Nat) (miCode : Nat → Int32) (MiWindow : Nat) (miWindow : Nat → Int32) (MdKind : Nat) (mdKind : Nat → Int32) (MdSize : Nat) (mdSize : Nat → Int32) (MdAddress : Nat) (mdAddress : Nat → Int32) (MdMode : Nat) (mdMode : Nat → Int32) (MdCode : Nat) (mdCode : Nat → Int32) (MdWindow : Nat) (mdWindow : Nat → Int32) (Msource : Nat) (msource : Nat → Int32) (MsourceFrom : Nat) (msourceFrom : Nat → Int32) (Mout : Nat) (mout : Nat → Int32) (MoutFrom : Nat) (moutFrom : Nat → Int32) (Mw : Nat) (mw : Nat → Int32) (MsData : Nat) (msData : Nat → Int32) (MsCodes : Nat) (msCodes : Nat → Int32) (MsAddresses : Nat) (msAddresses : Nat → Int32) (Mu : Nat) (mu : Nat → Int32) (MqKind : Nat) (mqKind : Nat → Int32) (MqSize : Nat) (mqSize : Nat → Int32) (MqAt : Nat) (mqAt : Nat → Int32) (MqAddress : Nat) (mqAddress : Nat → Int32) (MqMode : Nat) (mqMode : Nat → Int32) (MtableDelta : Nat) (mtableDelta : Nat → Int32) (Mkept : Nat) (mkept : Nat → Int32) (MkeptFrom : Nat) (mkeptFrom : Nat → Int32) (RL : Nat → List Int32) (tt : Nat → Nat) (gst : Nat → Nat → Int32) (pa : Int32), rwOk RL n0 f0 n1 f1 n2 f2 n3 f3 ∧ ∀ k, k < 4 → octL (RL k) ∧ tabIs ff firstT ∧ srtIs firstT fhf fnf ∧ tabIs uf tt ∧ near ≤ 8 ∧ same ≤ 4 ∧ k1 < 2 ^ 30 ∧ stepsIs 4000 gst k1 g1f ∧ k2 < 2 ^ 30 ∧ rwR mrows msizes RL ∧ bys mfirst firstT 1536 ∧ bys mown tt 1536 ∧ dRel miKind miSize miAddress miMode miCode miWindow gst (min k1 4000) ∧ g 1 = .ref Mrows ∧ g 2 = .ref Msizes ∧ g 3 = .ref Mfirst ∧ g 4 = .ref Mown ∧ g 5 = .int (nI near) ∧ g 6 = .int (nI same) ∧ g 7 = .ref Mtab ∧ g 10 = .ref Mnears ∧ g 12 = .ref Msames ∧ g 13 = .int (nI (min k1 4000)) ∧ g 14 = .ref MiKind ∧ g 15 = .ref MiSize ∧ g 16 = .ref MiAddress ∧ g 17 = .ref MiMode ∧ g 18 = .ref MiCode ∧ g 19 = .ref MiWindow ∧ g 21 = .ref MdKind ∧ g 22 = .ref MdSize ∧ g 23 = .ref MdAddress ∧ g 24 = .ref MdMode ∧ g 25 = .ref MdCode ∧ g 26 = .ref MdWindow ∧ g 27 = .ref Msource ∧ g 28 = .ref MsourceFrom ∧ g 30 = .ref Mout ∧ g 31 = .ref MoutFrom ∧ g 51 = .int pa ∧ g 52 = .int t0 ∧ g 53 = .int t1 ∧ g 54 = .int t2 ∧ g 55 = .int t3 ∧ g 56 = .ref Mw ∧ g 58 = .ref MsData ∧ g 60 = .ref MsCodes ∧ g 62 = .ref MsAddresses ∧ g 64 = .ref Mu ∧ g 68 = .ref MqKind ∧ g 69 = .ref MqSize ∧ g 70 = .ref MqAt ∧ g 71 = .ref MqAddress ∧ g 72 = .ref MqMode ∧ g 74 = .ref MtableDelta ∧ g 75 = .ref Mkept ∧ g 76 = .ref MkeptFrom ∧ va_P D vwCl [(cd, .inr (8, [.ref rq, .ref wt, .ref wq, .ref mi, .ref mo, .ref ft, .ref ot, .ref gt, .ref Ah, .ref Bh, .ref wr, .ref s1, .ref s2, .int t0, .int t1, .int t2, .int t3])), (rq, .inl (cR, 4, .inr (.inr (.inr (.inr (rqF r0 r1 r2 r3)))))), (r0, .inr (4, [.ref o0, .int (nI n0), .int 0])), (o0, .inl (cI, 4000, .inl f0)), (r1, .inr (4, [.ref o1, .int (nI n1), .int 0])), (o1, .inl (cI, 4000, .inl f1)), (r2, .inr (4, [.ref o2, .int (nI n2), .int 0])), (o2, .inl (cI, 8000, .inl f2)), (r3, .inr (4, [.ref o3, .int (nI n3), .int 0])), (o3, .inl (cI, 8000, .inl f3)), (Ah, .inr (3, [.ref Arm, .ref Arg, .ref Acf, .ref Acd, .ref Ack, .ref Aca, .ref Anr, .ref Asr, .ref Adl, .ref Asp, .int Af0, .int Apl0, .int Awn0, .int Ask, .int Ass, .int Asm, .int Awf, .int Awe])), (Acf, .inr (1, [.ref Ao, .int Ay1, .int Ay2])), (Arm, .inr (4, [.ref Amo, .int (nI Amn), .int 0])), (Amo, .inl (cI, 4000, .inl Amf)), (Arg, .inl (cI, 4000, .inl Agf)), (Anr, .inr (0, [.ref Aon, .ref Aos, .int Ax1, .int Ax2, .int Ax3])), (Aon, .inl (cI, 8, .inl Afn)), (Aos, .inl (cI, 1024, .inl Afs)), (Acd, .inr (1, [.ref Adq1, .int Adq2, .int Adq3])), (Ack, .inr (1, [.ref Akq1, .int Akq2, .int Akq3])), (Aca, .inr (1, [.ref Aaq1, .int Aaq2, .int Aaq3])), (Bh, .inr (3, [.ref Brm, .ref Brg, .ref Bcf, .ref Bcd, .ref Bck, .ref Bca, .ref Bnr, .ref Bsr, .ref Bdl, .ref Bsp, .int Bf0, .int Bpl0, .int Bwn0, .int Bsk, .int Bss, .int Bsm, .int Bwf, .int Bwe])), (Bcf, .inr (1, [.ref Bo, .int By1, .int By2])), (Brm, .inr (4, [.ref Bmo, .int (nI Bmn), .int 0])), (Bmo, .inl (cI, 1536, .inl Bmf)), (Brg, .inl (cI, 1536, .inl Bgf)), (Bnr, .inr (0, [.ref Bon, .ref Bos, .int Bx1, .int Bx2, .int Bx3])), (Bon, .inl (cI, 8, .inl Bfn)), (Bos, .inl (cI, 1024, .inl Bfs)), (Bcd, .inr (1, [.ref Bdq1, .int Bdq2, .int Bdq3])), (Bck, .inr (1, [.ref Bkq1, .int Bkq2, .int Bkq3])), (Bca, .inr (1, [.ref Baq1, .int Baq2, .int Baq3])), (ft, .inr (6, [.ref fr, .int (nI 4), .int (nI 3), .ref fh, .ref fn_])), (fr, .inr (4, [.ref fo, .int (nI 1536), .int 0])), (fo, .inl (cI, 1536, .inl ff)), (fh, .inl (cI, 256, .inl fhf)), (fn_, .inl (cI, 256, .inl fnf)), (ot, .inr (6, [.ref ur, .int (nI near), .int (nI same), .ref uh, .ref un])), (ur, .inr (4, [.ref uo, .int (nI 1536), .int 0])), (uo, .inl (cI, 1536, .inl uf)), (uh, .inl (cI, 256, .inl uhf)), (un, .inl (cI, 256, .inl unf)), (gt, .inr (6, [.ref gr, .int gn, .int gs, .ref gh, .ref gx])), (gr, .inr (4, [.ref go, .int (nI gk), .int gv])), (go, .inl (cI, 1536, .inl gsf)), (mi, .inr (4, [.ref mio, .int (nI min_), .int miv])), (mio, .inl (cI, 4000, .inl mif)), (mo, .inl (cI, 4000, .inl mof)), (wt, .inr (4, [.ref wto, .int (nI wn), .int wv])), (wto, .inl (cI, 8000, .inl wf_)), (wq, .inr (4, [.ref wqo, .int (nI qn), .int qv])), (wqo, .inl (cI, 4000, .inl qf)), (wr, .inr (7, [.ref Vda, .ref Vco, .ref Vaa, .ref Vnr, .ref Vfi, .ref Vou, .ref Vsp, .int Vw0, .int Vw1, .int Vw2, .int Vw3, .int Vw4])), (Vfi, .inr (2, [.ref Vqu, .ref Vqn, .ref Vqs, .ref Vqt, .ref Vqw, .ref Vqx, .int Vsrt, .int Vfe, .int Vsv, .int Vfz, .int Vfa])), (Vqu, .inl (cI, 8000, .inl Vuf)), (Vqn, .inl (cI, 8000, .inl Vfxn)), (Vqs, .inl (cI, 1024, .inl Vshf)), (Vqt, .inl (cI, 1024, .inl Vstf)), (Vqw, .inl (cI, 1024, .inl Vwhf)), (Vqx, .inl (cI, 1024, .inl Vwtf)), (Vda, .inr (4, [.ref Vdq, .int (nI Vn1), .int Vv1])), (Vdq, .inl (cI, 4000, .inl Vf1)), (Vaa, .inr (4, [.ref Vaq, .int (nI Vn2), .int Vv2])), (Vaq, .inl (cI, 4000, .inl Vf2)), (Vco, .inr (4, [.ref Vcq, .int (nI Vn3), .int Vv3])), (Vcq, .inl (cI, 4000, .inl Vf3)), (Vnr, .inr (0, [.ref Von, .ref Vos, .int Vx1, .int Vx2, .int Vx3])), (Von, .inl (cI, 8, .inl Vfn)), (Vos, .inl (cI, 1024, .inl Vfs)), (s1, .inr (5, [.int (nI 4000), .ref c1, .int (nI k1)])), (c1, .inl (cI, (4000 * 6), .inl g1f)), (s2, .inr (5, [.int (nI 4000), .ref c2, .int (nI k2)])), (c2, .inl (cI, (4000 * 6), .inl g2f)), (mm, .inr (9, fl 78 g)), (Mrows, .inl (cB, 32000, .inl mrows)), (Msizes, .inl (cI, 4, .inl msizes)), (Mfirst, .inl (cB, 1536, .inl mfirst)), (Mown, .inl (cB, 1536, .inl mown)), (Mtab, .inl (cB, 1536, .inl mtab)), (Mnears, .inl (cJ, 8, .inr (.inl mnears))), (Msames, .inl (cJ, 1024, .inr (.inl msames))), (MiKind, .inl (cI, 4000, .inl miKind)), (MiSize, .inl (cI, 4000, .inl miSize)), (MiAddress, .inl (cI, 4000, .inl miAddress)), (MiMode, .inl (cI, 4000, .inl miMode)), (MiCode, .inl (cI, 4000, .inl miCode)), (MiWindow, .inl (cI, 4000, .inl miWindow)), (MdKind, .inl (cI, 4000, .inl mdKind)), (MdSize, .inl (cI, 4000, .inl mdSize)), (MdAddress, .inl (cI, 4000, .inl mdAddress)), (MdMode, .inl (cI, 4000, .inl mdMode)), (MdCode, .inl (cI, 4000, .inl mdCode)), (MdWindow, .inl (cI, 4000, .inl mdWindow)), (Msource, .inl (cB, 4000, .inl msource)), (MsourceFrom, .inl (cI, 4000, .inl msourceFrom)), (Mout, .inl (cB, 4000, .inl mout)), (MoutFrom, .inl (cI, 4000, .inl moutFrom)), (Mw, .inl (cB, 30000, .inl mw)), (MsData, .inl (cB, 8000, .inl msData)), (MsCodes, .inl (cB, 30000, .inl msCodes)), (MsAddresses, .inl (cB, 30000, .inl msAddresses)), (Mu, .inl (cB, 8000, .inl mu)), (MqKind, .inl (cI, 4100, .inl mqKind)), (MqSize, .inl (cI, 4100, .inl mqSize)), (MqAt, .inl (cI, 4100, .inl mqAt)), (MqAddress, .inl (cI, 4100, .inl mqAddress)), (MqMode, .inl (cI, 4100, .inl mqMode)), (MtableDelta, .inl (cB, 8000, .inl mtableDelta)), (Mkept, .inl (cB, 4000, .inl mkept)), (MkeptFrom, .inl (cI, 4000, .inl mkeptFrom))] H ∧ va_D A [(cd, .inr (8, [.ref rq, .ref wt, .ref wq, .ref mi, .ref mo, .ref ft, .ref ot, .ref gt, .ref Ah, .ref Bh, .ref wr, .ref s1, .ref s2, .int t0, .int t1, .int t2, .int t3])), (rq, .inl (cR, 4, .inr (.inr (.inr (.inr (rqF r0 r1 r2 r3)))))), (r0, .inr (4, [.ref o0, .int (nI n0), .int 0])), (o0, .inl (cI, 4000, .inl f0)), (r1, .inr (4, [.ref o1, .int (nI n1), .int 0])), (o1, .inl (cI, 4000, .inl f1)), (r2, .inr (4, [.ref o2, .int (nI n2), .int 0])), (o2, .inl (cI, 8000, .inl f2)), (r3, .inr (4, [.ref o3, .int (nI n3), .int 0])), (o3, .inl (cI, 8000, .inl f3)), (Ah, .inr (3, [.ref Arm, .ref Arg, .ref Acf, .ref Acd, .ref Ack, .ref Aca, .ref Anr, .ref Asr, .ref Adl, .ref Asp, .int Af0, .int Apl0, .int Awn0, .int Ask, .int Ass, .int Asm, .int Awf, .int Awe])), (Acf, .inr (1, [.ref Ao, .int Ay1, .int Ay2])), (Arm, .inr (4, [.ref Amo, .int (nI Amn), .int 0])), (Amo, .inl (cI, 4000, .inl Amf)), (Arg, .inl (cI, 4000, .inl Agf)), (Anr, .inr (0, [.ref Aon, .ref Aos, .int Ax1, .int Ax2, .int Ax3])), (Aon, .inl (cI, 8, .inl Afn)), (Aos, .inl (cI, 1024, .inl Afs)), (Acd, .inr (1, [.ref Adq1, .int Adq2, .int Adq3])), (Ack, .inr (1, [.ref Akq1, .int Akq2, .int Akq3])), (Aca, .inr (1, [.ref Aaq1, .int Aaq2, .int Aaq3])), (Bh, .inr (3, [.ref Brm, .ref Brg, .ref Bcf, .ref Bcd, .ref Bck, .ref Bca, .ref Bnr, .ref Bsr, .ref Bdl, .ref Bsp, .int Bf0, .int Bpl0, .int Bwn0, .int Bsk, .int Bss, .int Bsm, .int Bwf, .int Bwe])), (Bcf, .inr (1, [.ref Bo, .int By1, .int By2])), (Brm, .inr (4, [.ref Bmo, .int (nI Bmn), .int 0])), (Bmo, .inl (cI, 1536, .inl Bmf)), (Brg, .inl (cI, 1536, .inl Bgf)), (Bnr, .inr (0, [.ref Bon, .ref Bos, .int Bx1, .int Bx2, .int Bx3])), (Bon, .inl (cI, 8, .inl Bfn)), (Bos, .inl (cI, 1024, .inl Bfs)), (Bcd, .inr (1, [.ref Bdq1, .int Bdq2, .int Bdq3])), (Bck, .inr (1, [.ref Bkq1, .int Bkq2, .int Bkq3])), (Bca, .inr (1, [.ref Baq1, .int Baq2, .int Baq3])), (ft, .inr (6, [.ref fr, .int (nI 4), .int (nI 3), .ref fh, .ref fn_])), (fr, .inr (4, [.ref fo, .int (nI 1536), .int 0])), (fo, .inl (cI, 1536, .inl ff)), (fh, .inl (cI, 256, .inl fhf)), (fn_, .inl (cI, 256, .inl fnf)), (ot, .inr (6, [.ref ur, .int (nI near), .int (nI same), .ref uh, .ref un])), (ur, .inr (4, [.ref uo, .int (nI 1536), .int 0])), (uo, .inl (cI, 1536, .inl uf)), (uh, .inl (cI, 256, .inl uhf)), (un, .inl (cI, 256, .inl unf)), (gt, .inr (6, [.ref gr, .int gn, .int gs, .ref gh, .ref gx])), (gr, .inr (4, [.ref go, .int (nI gk), .int gv])), (go, .inl (cI, 1536, .inl gsf)), (mi, .inr (4, [.ref mio, .int (nI min_), .int miv])), (mio, .inl (cI, 4000, .inl mif)), (mo, .inl (cI, 4000, .inl mof)), (wt, .inr (4, [.ref wto, .int (nI wn), .int wv])), (wto, .inl (cI, 8000, .inl wf_)), (wq, .inr (4, [.ref wqo, .int (nI qn), .int qv])), (wqo, .inl (cI, 4000, .inl qf)), (wr, .inr (7, [.ref Vda, .ref Vco, .ref Vaa, .ref Vnr, .ref Vfi, .ref Vou, .ref Vsp, .int Vw0, .int Vw1, .int Vw2, .int Vw3, .int Vw4])), (Vfi, .inr (2, [.ref Vqu, .ref Vqn, .ref Vqs, .ref Vqt, .ref Vqw, .ref Vqx, .int Vsrt, .int Vfe, .int Vsv, .int Vfz, .int Vfa])), (Vqu, .inl (cI, 8000, .inl Vuf)), (Vqn, .inl (cI, 8000, .inl Vfxn)), (Vqs, .inl (cI, 1024, .inl Vshf)), (Vqt, .inl (cI, 1024, .inl Vstf)), (Vqw, .inl (cI, 1024, .inl Vwhf)), (Vqx, .inl (cI, 1024, .inl Vwtf)), (Vda, .inr (4, [.ref Vdq, .int (nI Vn1), .int Vv1])), (Vdq, .inl (cI, 4000, .inl Vf1)), (Vaa, .inr (4, [.ref Vaq, .int (nI Vn2), .int Vv2])), (Vaq, .inl (cI, 4000, .inl Vf2)), (Vco, .inr (4, [.ref Vcq, .int (nI Vn3), .int Vv3])), (Vcq, .inl (cI, 4000, .inl Vf3)), (Vnr, .inr (0, [.ref Von, .ref Vos, .int Vx1, .int Vx2, .int Vx3])), (Von, .inl (cI, 8, .inl Vfn)), (Vos, .inl (cI, 1024, .inl Vfs)), (s1, .inr (5, [.int (nI 4000), .ref c1, .int (nI k1)])), (c1, .inl (cI, (4000 * 6), .inl g1f)), (s2, .inr (5, [.int (nI 4000), .ref c2, .int (nI k2)])), (c2, .inl (cI, (4000 * 6), .inl g2f)), (mm, .inr (9, fl 78 g)), (Mrows, .inl (cB, 32000, .inl mrows)), (Msizes, .inl (cI, 4, .inl msizes)), (Mfirst, .inl (cB, 1536, .inl mfirst)), (Mown, .inl (cB, 1536, .inl mown)), (Mtab, .inl (cB, 1536, .inl mtab)), (Mnears, .inl (cJ, 8, .inr (.inl mnears))), (Msames, .inl (cJ, 1024, .inr (.inl msames))), (MiKind, .inl (cI, 4000, .inl miKind)), (MiSize, .inl (cI, 4000, .inl miSize)), (MiAddress, .inl (cI, 4000, .inl miAddress)), (MiMode, .inl (cI, 4000, .inl miMode)), (MiCode, .inl (cI, 4000, .inl miCode)), (MiWindow, .inl (cI, 4000, .inl miWindow)), (MdKind, .inl (cI, 4000, .inl mdKind)), (MdSize, .inl (cI, 4000, .inl mdSize)), (MdAddress, .inl (cI, 4000, .inl mdAddress)), (MdMode, .inl (cI, 4000, .inl mdMode)), (MdCode, .inl (cI, 4000, .inl mdCode)), (MdWindow, .inl (cI, 4000, .inl mdWindow)), (Msource, .inl (cB, 4000, .inl msource)), (MsourceFrom, .inl (cI, 4000, .inl msourceFrom)), (Mout, .inl (cB, 4000, .inl mout)), (MoutFrom, .inl (cI, 4000, .inl moutFrom)), (Mw, .inl (cB, 30000, .inl mw)), (MsData, .inl (cB, 8000, .inl msData)), (MsCodes, .inl (cB, 30000, .inl msCodes)), (MsAddresses, .inl (cB, 30000, .inl msAddresses)), (Mu, .inl (cB, 8000, .inl mu)), (MqKind, .inl (cI, 4100, .inl mqKind)), (MqSize, .inl (cI, 4100, .inl mqSize)), (MqAt, .inl (cI, 4100, .inl mqAt)), (MqAddress, .inl (cI, 4100, .inl mqAddress)), (MqMode, .inl (cI, 4100, .inl mqMode)), (MtableDelta, .inl (cB, 8000, .inl mtableDelta)), (Mkept, .inl (cB, 4000, .inl mkept)), (MkeptFrom, .inl (cI, 4000, .inl mkeptFrom))]
def LX (p0 : Program) (s0 : State) (m0 : MethodId) (c0 : Code) (b L : Nat) (xs : Nat → Int32) (D : va_G) (cI cB cJ cR : ClassId) (A0 : Nat → Prop) : Prop :=
  p0.tables.exec = Jvm.exec ∧ c0.code = cL_law ∧ c0.maxLocals = 4 ∧ s0.vm.findClass RL = some m0.cls ∧ (∀ w ∈ TT, w.before ([.ref b] : List Value).toArray s0 = true) ∧ va_K D vwCl (tyA cI cB cJ cR) s0 ∧ NW s0 ∧ MK A0 s0 s0.heap ∧ (∀ q, s0.heap.size ≤ q → A0 q) ∧ va_X b L xs s0 s0.heap ∧ b < s0.heap.size ∧ ¬ A0 b ∧ L ≤ 2560
theorem pr_eq {α β : Type} {p : α × β} {a c : α} {b d : β} (h1 : p = (a, b)) (h2 : p = (c, d)) : a = c ∧ b = d := by
  rw [h1] at h2
  exact ⟨congrArg Prod.fst h2, congrArg Prod.snd h2⟩
theorem ocR_up {RL : Nat → List Int32} {k : Nat} {M : List Int32} (h : ∀ k, k < 4 → octL (RL k)) (hM : ocA M) : ∀ j, j < 4 → octL (va_up RL k M j) := by
  intro j hj
  by_cases q : j = k
  · subst q; rw [va_up_self]; exact octL_of hM
  · rw [va_up_ne _ _ q]; exact h j hj
theorem oc_row {RL : Nat → List Int32} {x : Int32} (h : ∀ k, k < 4 → octL (RL k)) (hx : isR x = true) : ocA (RL x.toNatClampNeg) := by
  obtain ⟨k, hk, rfl⟩ := isR_ex hx
  rw [nI_clamp (by omega)]
  exact octL_to (h k hk)
theorem isR_nf {x : Int32} (h : ¬ isR x = false) : isR x = true := by
  cases hh : isR x with
  | true => rfl
  | false => exact absurd hh h
theorem oc_feedP {x n r : Int32} {v : Int64} {RL RL9 : Nat → List Int32} (h : ∀ k, k < 4 → octL (RL k)) (he : feedP x v n RL = (r, RL9)) : ∀ k, k < 4 → octL (RL9 k) := by
  unfold feedP at he
  split at he
  · rw [← (Prod.mk.inj he).2]; exact h
  · rename_i q
    have hx := isR_nf (fun z => q (Or.inl z))
    split at he
    · rw [← (Prod.mk.inj he).2]; exact ocR_up h ocA_nil
    · split at he
      · rw [← (Prod.mk.inj he).2]; exact h
      · rw [← (Prod.mk.inj he).2]; exact ocR_up h (ocA_app (oc_row h hx) (oc_fd _))
theorem oc_filP {x kd n sd r : Int32} {RL RL9 : Nat → List Int32} (h : ∀ k, k < 4 → octL (RL k)) (he : filP x kd n sd RL = (r, RL9)) : ∀ k, k < 4 → octL (RL9 k) := by
  unfold filP at he
  split at he
  · rw [← (Prod.mk.inj he).2]; exact h
  · rename_i q
    have hx := isR_nf (fun z => q (Or.inl z))
    split at he
    · rw [← (Prod.mk.inj he).2]; exact h
    · rw [← (Prod.mk.inj he).2]; exact ocR_up h (oc_fil _ _ _ (oc_row h hx))
theorem oc_cpyP {x a n y r : Int32} {RL RL9 : Nat → List Int32} (h : ∀ k, k < 4 → octL (RL k)) (he : cpyP x a n y RL = (r, RL9)) : ∀ k, k < 4 → octL (RL9 k) := by
  unfold cpyP at he
  split at he
  · rw [← (Prod.mk.inj he).2]; exact h
  · rename_i q
    have hx := isR_nf (fun z => q (Or.inl z))
    have hy := isR_nf (fun z => q (Or.inr (Or.inl z)))
    have hn : ¬ (RL x.toNatClampNeg).length < a.toNatClampNeg + n.toNatClampNeg := fun z => q (Or.inr (Or.inr (Or.inr (Or.inr z))))
    split at he
    · rw [← (Prod.mk.inj he).2]; exact h
    · rw [← (Prod.mk.inj he).2]
      refine ocR_up h (ocA_app (oc_row h hy) (ocA_rg _ (fun i hi => ?_)))
      have ho := octL_of (oc_row h hx) (a.toNatClampNeg + i) (by omega)
      exact ho
theorem oc_altP {x i v r : Int32} {RL RL9 : Nat → List Int32} (h : ∀ k, k < 4 → octL (RL k)) (he : altP x i v RL = (r, RL9)) : ∀ k, k < 4 → octL (RL9 k) := by
  unfold altP at he
  split at he
  · rw [← (Prod.mk.inj he).2]; exact h
  · rename_i q
    rw [← (Prod.mk.inj he).2]; exact ocR_up h (oc_alt (oc_row h (isR_nf q)))
theorem oc_cutP {x n r : Int32} {RL RL9 : Nat → List Int32} (h : ∀ k, k < 4 → octL (RL k)) (he : cutP x n RL = (r, RL9)) : ∀ k, k < 4 → octL (RL9 k) := by
  unfold cutP at he
  split at he
  · rw [← (Prod.mk.inj he).2]; exact h
  · rename_i q
    rw [← (Prod.mk.inj he).2]; exact ocR_up h (oc_take (oc_row h (isR_nf (fun z => q (Or.inl z)))))
theorem cod_eq {i r r2 : Int32} {T : Nat → Nat} {m : Nat} (h1 : codQ i T m r) (h2 : codQ i T m r2) : r = r2 := by
  by_cases q : i = -1
  · obtain ⟨a1, a2⟩ := h1.1 q
    obtain ⟨b1, b2⟩ := h2.1 q
    by_cases z : rightP T m 512
    · rw [a1 z, b1 z]
    · rw [a2 z, b2 z]
  · rw [h1.2 q, h2.2 q]
theorem cdx_eq {x i r r2 : Int32} {T U : Nat → Nat} {m n : Nat} (h1 : (x < 0 ∨ ¬ x ≤ 1 → r = -1) ∧ (x = 0 → codQ i T m r) ∧ (x = 1 → codQ i U n r)) (h2 : (x < 0 ∨ ¬ x ≤ 1 → r2 = -1) ∧ (x = 0 → codQ i T m r2) ∧ (x = 1 → codQ i U n r2)) : r = r2 := by
  by_cases q : x < 0 ∨ ¬ x ≤ 1
  · rw [h1.1 q, h2.1 q]
  · by_cases q0 : x = 0
    · exact cod_eq (h1.2.1 q0) (h2.2.1 q0)
    · have q1 : x = 1 := by
        have hn : ¬ x < 0 := fun z => q (Or.inl z)
        have hl : x ≤ 1 := Decidable.byContradiction (fun z => q (Or.inr z))
        obtain ⟨m, hm, rfl⟩ := nI_of8 (b := 1) hn hl (by decide)
        have : m = 0 ∨ m = 1 := by omega
        rcases this with rfl | rfl
        · exact absurd rfl q0
        · rfl
      exact cod_eq (h1.2.2 q1) (h2.2.2 q1)
theorem wdG_pl {b : Nat → Nat} {e sn MN near same : Nat} {tt sB : Nat → Nat} {sG : Nat → Int32} {s : RS} (h : (wdG b e sn MN near same tt sB sG s).1 = 0) : s.1 = 0 ∧ (wdG b e sn MN near same tt sB sG s).2.1 = s.2.1 := by
  by_cases q : s.1 = 0
  · exact ⟨q, wdL_pl 8000 _ h⟩
  · rw [wdG_bad q] at h; exact absurd h q
theorem skS_pl {g : Bool} {z : Nat} {s : RS} (h : (skS g z s).1 = 0) : s.1 = 0 ∧ (skS g z s).2.1 = s.2.1 := by
  unfold skS at h ⊢
  by_cases q : g = false
  · rw [if_pos q] at h
    by_cases q2 : s.1 = 0
    · rw [if_pos q2] at h; exact absurd h (show ¬ (18 : Nat) = 0 by decide)
    · rw [if_neg q2] at h; exact absurd h q2
  · rw [if_neg q] at h ⊢; exact ⟨h, rfl⟩
theorem tbE_pl {b : Nat → Nat} {e : Nat} {s : RS} (hs : s.1 = 0 → s.2.1 = 0) (h : (tbE b e s).1 = 0) : (tbE b e s).2.1 = 0 := by
  unfold tbE at h ⊢
  obtain ⟨h3, h4⟩ := skS_pl h
  rw [h4]
  obtain ⟨h5, h6⟩ := okR_tbS h3
  rw [h6]
  exact hs h5
theorem rfG_pl {b : Nat → Nat} {e sn : Nat} {sB : Nat → Nat} {sG : Nat → Int32} (h : (rfG b e sn sB sG).1 = 0) : (rfG b e sn sB sG).2.1 = 0 := by
  have hk : okR (0, 0, 0) (tkK b e (tkMark b e (0, 0, 0))).2 := okR_K
  unfold rfG at h ⊢
  generalize tkK b e (tkMark b e (0, 0, 0)) = K at hk h ⊢
  by_cases q : K.1 = 2
  · rw [if_pos q] at h ⊢
    obtain ⟨h1, h2⟩ := wdG_pl h
    rw [h2]
    exact tbE_pl (fun z => (hk z).2) h1
  · rw [if_neg q] at h ⊢
    obtain ⟨h1, h2⟩ := wdG_pl h
    rw [h2]
    exact (hk h1).2
theorem tp_eq {fu pl : Nat} (h : fu = 0 → pl = 0) : nI (if fu = 0 then 0 else pl) = nI pl := by
  by_cases q : fu = 0
  · rw [if_pos q, h q]
  · rw [if_neg q]
theorem xs_inj {a b : Nat × Nat × Nat × Nat × MS × (Nat → Nat → Int32) × Nat} (h : a = b) : a.1 = b.1 ∧ a.2.1 = b.2.1 ∧ a.2.2.2.1 = b.2.2.2.1 ∧ a.2.2.2.2.1.1 = b.2.2.2.2.1.1 ∧ a.2.2.2.2.1.2.1 = b.2.2.2.2.1.2.1 ∧ a.2.2.2.2.1.2.2 = b.2.2.2.2.1.2.2 ∧ a.2.2.2.2.2.1 = b.2.2.2.2.2.1 ∧ a.2.2.2.2.2.2 = b.2.2.2.2.2.2 := by
  rw [h]; exact ⟨rfl, rfl, rfl, rfl, rfl, rfl, rfl, rfl⟩
theorem join_eq {b : Nat → Nat} {e xn : Nat} {B : Nat → Nat} {G : Nat → Int32} (hb9 : ∀ j, j < e → b j < 256) (hxn : xn < 2 ^ 31) : xRel (fun x y => y = trB G xn x) (rfP b e xn B) (rfG b e xn B G) := by
  refine rfG_rel hb9 ?_ (fun i hi => ?_)
  · unfold trB; rw [if_neg (fun z => by unfold inB at z; exact (of_decide_eq_true z).1 (by decide))]
  · unfold trB; rw [if_pos (inB_t hi hxn), nI_clamp (by omega)]
theorem tab_by {f m : Nat → Int32} {t : Nat → Nat} (h : tabIs f t) : ∀ j, j < 1536 → f j = (fun j => nI (t j)) j := fun j hj => (h j hj).1
theorem tbI_ext {uf : Nat → Int32} {t t2 : Nat → Nat} {o : Nat → Int32} {n : Nat} (h : t = t2) (hb : bys o t n) : bys o t2 n := by rw [← h]; exact hb
