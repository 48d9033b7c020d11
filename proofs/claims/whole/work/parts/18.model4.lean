/-! ===== the reference: a leg ===== -/
set_option maxRecDepth 100000 in
set_option maxHeartbeats 4000000 in
theorem b_X12_leg_0 {g : GP} {CX : State → Array Value → Prop} {Q : AH → Option Value → Prop} {X : AH → String → Prop} {v1 : Int32} {v2 : Int32} {v3 : Int32} {v4 : Int32} {σ : AH}
    (hS : Sh σ)
    (k1 : (¬ (isPl v1)) → ((zI σ 33 16) = 0) → (v1 = v2) → Q (uI σ 33 49 (1 : Int32)) (some (.int (0 : Int32))))
    (k2 : (¬ (isPl v1)) → ((zI σ 33 16) = 0) → (¬ v1 = v2) → (¬ (isWi v4 (zI σ 33 0) (999 : Int32))) → Q (uI σ 33 49 (1 : Int32)) (some (.int (0 : Int32))))
    (k3 : (¬ (isPl v1)) → ((zI σ 33 16) = 0) → (¬ v1 = v2) → (isWi v4 (zI σ 33 0) (999 : Int32)) → Q (uI σ 33 49 (1 : Int32)) (some (.int (0 : Int32))))
    (k4 : (¬ (isPl v1)) → (¬ (zI σ 33 16) = 0) → ((8 : Int32) ≤ (zI σ 33 16)) → (v1 = v2) → Q (uI σ 33 49 (1 : Int32)) (some (.int (0 : Int32))))
    (k5 : (¬ (isPl v1)) → (¬ (zI σ 33 16) = 0) → ((8 : Int32) ≤ (zI σ 33 16)) → (¬ v1 = v2) → (¬ (isWi v4 (zI σ 33 0) (999 : Int32))) → Q (uI σ 33 49 (1 : Int32)) (some (.int (0 : Int32))))
    (k6 : (¬ (isPl v1)) → (¬ (zI σ 33 16) = 0) → ((8 : Int32) ≤ (zI σ 33 16)) → (¬ v1 = v2) → (isWi v4 (zI σ 33 0) (999 : Int32)) → Q (uI σ 33 49 (1 : Int32)) (some (.int (0 : Int32))))
    (o1 : (¬ (isPl v1)) → (¬ (zI σ 33 16) = 0) → (¬ (8 : Int32) ≤ (zI σ 33 16)) → vp_in ((zI σ 33 16) - (1 : Int32)) 8)
    (k7 : (¬ (isPl v1)) → (¬ (zI σ 33 16) = 0) → (¬ (8 : Int32) ≤ (zI σ 33 16)) → (¬ (zI σ 47 (Int32.toNatClampNeg ((zI σ 33 16) - (1 : Int32)))) = v1) → (v1 = v2) → Q (uI σ 33 49 (1 : Int32)) (some (.int (0 : Int32))))
    (k8 : (¬ (isPl v1)) → (¬ (zI σ 33 16) = 0) → (¬ (8 : Int32) ≤ (zI σ 33 16)) → (¬ (zI σ 47 (Int32.toNatClampNeg ((zI σ 33 16) - (1 : Int32)))) = v1) → (¬ v1 = v2) → (¬ (isWi v4 (zI σ 33 0) (999 : Int32))) → Q (uI σ 33 49 (1 : Int32)) (some (.int (0 : Int32))))
    (k9 : (¬ (isPl v1)) → (¬ (zI σ 33 16) = 0) → (¬ (8 : Int32) ≤ (zI σ 33 16)) → (¬ (zI σ 47 (Int32.toNatClampNeg ((zI σ 33 16) - (1 : Int32)))) = v1) → (¬ v1 = v2) → (isWi v4 (zI σ 33 0) (999 : Int32)) → Q (uI σ 33 49 (1 : Int32)) (some (.int (0 : Int32))))
    (k10 : (¬ (isPl v1)) → (¬ (zI σ 33 16) = 0) → (¬ (8 : Int32) ≤ (zI σ 33 16)) → ((zI σ 47 (Int32.toNatClampNeg ((zI σ 33 16) - (1 : Int32)))) = v1) → (v4 < (zI σ 49 (Int32.toNatClampNeg ((zI σ 33 16) - (1 : Int32))))) → (v1 = v2) → Q (uI σ 33 49 (1 : Int32)) (some (.int (0 : Int32))))
    (k11 : (¬ (isPl v1)) → (¬ (zI σ 33 16) = 0) → (¬ (8 : Int32) ≤ (zI σ 33 16)) → ((zI σ 47 (Int32.toNatClampNeg ((zI σ 33 16) - (1 : Int32)))) = v1) → (v4 < (zI σ 49 (Int32.toNatClampNeg ((zI σ 33 16) - (1 : Int32))))) → (¬ v1 = v2) → (¬ (isWi v4 (zI σ 33 0) (999 : Int32))) → Q (uI σ 33 49 (1 : Int32)) (some (.int (0 : Int32))))
    (k12 : (¬ (isPl v1)) → (¬ (zI σ 33 16) = 0) → (¬ (8 : Int32) ≤ (zI σ 33 16)) → ((zI σ 47 (Int32.toNatClampNeg ((zI σ 33 16) - (1 : Int32)))) = v1) → (v4 < (zI σ 49 (Int32.toNatClampNeg ((zI σ 33 16) - (1 : Int32))))) → (¬ v1 = v2) → (isWi v4 (zI σ 33 0) (999 : Int32)) → Q (uI σ 33 49 (1 : Int32)) (some (.int (0 : Int32))))
    (k13 : (¬ (isPl v1)) → (¬ (zI σ 33 16) = 0) → (¬ (8 : Int32) ≤ (zI σ 33 16)) → ((zI σ 47 (Int32.toNatClampNeg ((zI σ 33 16) - (1 : Int32)))) = v1) → (¬ v4 < (zI σ 49 (Int32.toNatClampNeg ((zI σ 33 16) - (1 : Int32))))) → (v1 = v2) → Q (uI σ 33 49 (1 : Int32)) (some (.int (0 : Int32))))
    (k14 : (¬ (isPl v1)) → (¬ (zI σ 33 16) = 0) → (¬ (8 : Int32) ≤ (zI σ 33 16)) → ((zI σ 47 (Int32.toNatClampNeg ((zI σ 33 16) - (1 : Int32)))) = v1) → (¬ v4 < (zI σ 49 (Int32.toNatClampNeg ((zI σ 33 16) - (1 : Int32))))) → (¬ v1 = v2) → (¬ (isWi v4 (zI σ 33 0) (999 : Int32))) → Q (uI σ 33 49 (1 : Int32)) (some (.int (0 : Int32))))
    (k15 : (¬ (isPl v1)) → (¬ (zI σ 33 16) = 0) → (¬ (8 : Int32) ≤ (zI σ 33 16)) → ((zI σ 47 (Int32.toNatClampNeg ((zI σ 33 16) - (1 : Int32)))) = v1) → (¬ v4 < (zI σ 49 (Int32.toNatClampNeg ((zI σ 33 16) - (1 : Int32))))) → (¬ v1 = v2) → (isWi v4 (zI σ 33 0) (999 : Int32)) → Q (uI σ 33 49 (1 : Int32)) (some (.int (0 : Int32))))
    (k16 : (isPl v1) → (¬ (isPl v2)) → ((zI σ 33 16) = 0) → (v1 = v2) → Q (uI σ 33 49 (1 : Int32)) (some (.int (0 : Int32))))
    (k17 : (isPl v1) → (¬ (isPl v2)) → ((zI σ 33 16) = 0) → (¬ v1 = v2) → (¬ (isWi v4 (zI σ 33 0) (999 : Int32))) → Q (uI σ 33 49 (1 : Int32)) (some (.int (0 : Int32))))
    (k18 : (isPl v1) → (¬ (isPl v2)) → ((zI σ 33 16) = 0) → (¬ v1 = v2) → (isWi v4 (zI σ 33 0) (999 : Int32)) → Q (uI σ 33 49 (1 : Int32)) (some (.int (0 : Int32))))
    (k19 : (isPl v1) → (¬ (isPl v2)) → (¬ (zI σ 33 16) = 0) → ((8 : Int32) ≤ (zI σ 33 16)) → (v1 = v2) → Q (uI σ 33 49 (1 : Int32)) (some (.int (0 : Int32))))
    (k20 : (isPl v1) → (¬ (isPl v2)) → (¬ (zI σ 33 16) = 0) → ((8 : Int32) ≤ (zI σ 33 16)) → (¬ v1 = v2) → (¬ (isWi v4 (zI σ 33 0) (999 : Int32))) → Q (uI σ 33 49 (1 : Int32)) (some (.int (0 : Int32))))
    (k21 : (isPl v1) → (¬ (isPl v2)) → (¬ (zI σ 33 16) = 0) → ((8 : Int32) ≤ (zI σ 33 16)) → (¬ v1 = v2) → (isWi v4 (zI σ 33 0) (999 : Int32)) → Q (uI σ 33 49 (1 : Int32)) (some (.int (0 : Int32))))
    (o2 : (isPl v1) → (¬ (isPl v2)) → (¬ (zI σ 33 16) = 0) → (¬ (8 : Int32) ≤ (zI σ 33 16)) → vp_in ((zI σ 33 16) - (1 : Int32)) 8)
    (k22 : (isPl v1) → (¬ (isPl v2)) → (¬ (zI σ 33 16) = 0) → (¬ (8 : Int32) ≤ (zI σ 33 16)) → (¬ (zI σ 47 (Int32.toNatClampNeg ((zI σ 33 16) - (1 : Int32)))) = v1) → (v1 = v2) → Q (uI σ 33 49 (1 : Int32)) (some (.int (0 : Int32))))
    (k23 : (isPl v1) → (¬ (isPl v2)) → (¬ (zI σ 33 16) = 0) → (¬ (8 : Int32) ≤ (zI σ 33 16)) → (¬ (zI σ 47 (Int32.toNatClampNeg ((zI σ 33 16) - (1 : Int32)))) = v1) → (¬ v1 = v2) → (¬ (isWi v4 (zI σ 33 0) (999 : Int32))) → Q (uI σ 33 49 (1 : Int32)) (some (.int (0 : Int32))))
    (k24 : (isPl v1) → (¬ (isPl v2)) → (¬ (zI σ 33 16) = 0) → (¬ (8 : Int32) ≤ (zI σ 33 16)) → (¬ (zI σ 47 (Int32.toNatClampNeg ((zI σ 33 16) - (1 : Int32)))) = v1) → (¬ v1 = v2) → (isWi v4 (zI σ 33 0) (999 : Int32)) → Q (uI σ 33 49 (1 : Int32)) (some (.int (0 : Int32))))
    (k25 : (isPl v1) → (¬ (isPl v2)) → (¬ (zI σ 33 16) = 0) → (¬ (8 : Int32) ≤ (zI σ 33 16)) → ((zI σ 47 (Int32.toNatClampNeg ((zI σ 33 16) - (1 : Int32)))) = v1) → (v4 < (zI σ 49 (Int32.toNatClampNeg ((zI σ 33 16) - (1 : Int32))))) → (v1 = v2) → Q (uI σ 33 49 (1 : Int32)) (some (.int (0 : Int32))))
    (k26 : (isPl v1) → (¬ (isPl v2)) → (¬ (zI σ 33 16) = 0) → (¬ (8 : Int32) ≤ (zI σ 33 16)) → ((zI σ 47 (Int32.toNatClampNeg ((zI σ 33 16) - (1 : Int32)))) = v1) → (v4 < (zI σ 49 (Int32.toNatClampNeg ((zI σ 33 16) - (1 : Int32))))) → (¬ v1 = v2) → (¬ (isWi v4 (zI σ 33 0) (999 : Int32))) → Q (uI σ 33 49 (1 : Int32)) (some (.int (0 : Int32))))
    (k27 : (isPl v1) → (¬ (isPl v2)) → (¬ (zI σ 33 16) = 0) → (¬ (8 : Int32) ≤ (zI σ 33 16)) → ((zI σ 47 (Int32.toNatClampNeg ((zI σ 33 16) - (1 : Int32)))) = v1) → (v4 < (zI σ 49 (Int32.toNatClampNeg ((zI σ 33 16) - (1 : Int32))))) → (¬ v1 = v2) → (isWi v4 (zI σ 33 0) (999 : Int32)) → Q (uI σ 33 49 (1 : Int32)) (some (.int (0 : Int32))))
    (k28 : (isPl v1) → (¬ (isPl v2)) → (¬ (zI σ 33 16) = 0) → (¬ (8 : Int32) ≤ (zI σ 33 16)) → ((zI σ 47 (Int32.toNatClampNeg ((zI σ 33 16) - (1 : Int32)))) = v1) → (¬ v4 < (zI σ 49 (Int32.toNatClampNeg ((zI σ 33 16) - (1 : Int32))))) → (v1 = v2) → Q (uI σ 33 49 (1 : Int32)) (some (.int (0 : Int32))))
    (k29 : (isPl v1) → (¬ (isPl v2)) → (¬ (zI σ 33 16) = 0) → (¬ (8 : Int32) ≤ (zI σ 33 16)) → ((zI σ 47 (Int32.toNatClampNeg ((zI σ 33 16) - (1 : Int32)))) = v1) → (¬ v4 < (zI σ 49 (Int32.toNatClampNeg ((zI σ 33 16) - (1 : Int32))))) → (¬ v1 = v2) → (¬ (isWi v4 (zI σ 33 0) (999 : Int32))) → Q (uI σ 33 49 (1 : Int32)) (some (.int (0 : Int32))))
    (k30 : (isPl v1) → (¬ (isPl v2)) → (¬ (zI σ 33 16) = 0) → (¬ (8 : Int32) ≤ (zI σ 33 16)) → ((zI σ 47 (Int32.toNatClampNeg ((zI σ 33 16) - (1 : Int32)))) = v1) → (¬ v4 < (zI σ 49 (Int32.toNatClampNeg ((zI σ 33 16) - (1 : Int32))))) → (¬ v1 = v2) → (isWi v4 (zI σ 33 0) (999 : Int32)) → Q (uI σ 33 49 (1 : Int32)) (some (.int (0 : Int32))))
    (k31 : (isPl v1) → (isPl v2) → (¬ (isCa v3)) → ((zI σ 33 16) = 0) → (v1 = v2) → Q (uI σ 33 49 (1 : Int32)) (some (.int (0 : Int32))))
    (k32 : (isPl v1) → (isPl v2) → (¬ (isCa v3)) → ((zI σ 33 16) = 0) → (¬ v1 = v2) → (¬ (isWi v4 (zI σ 33 0) (999 : Int32))) → Q (uI σ 33 49 (1 : Int32)) (some (.int (0 : Int32))))
    (k33 : (isPl v1) → (isPl v2) → (¬ (isCa v3)) → ((zI σ 33 16) = 0) → (¬ v1 = v2) → (isWi v4 (zI σ 33 0) (999 : Int32)) → Q (uI σ 33 49 (1 : Int32)) (some (.int (0 : Int32))))
    (k34 : (isPl v1) → (isPl v2) → (¬ (isCa v3)) → (¬ (zI σ 33 16) = 0) → ((8 : Int32) ≤ (zI σ 33 16)) → (v1 = v2) → Q (uI σ 33 49 (1 : Int32)) (some (.int (0 : Int32))))
    (k35 : (isPl v1) → (isPl v2) → (¬ (isCa v3)) → (¬ (zI σ 33 16) = 0) → ((8 : Int32) ≤ (zI σ 33 16)) → (¬ v1 = v2) → (¬ (isWi v4 (zI σ 33 0) (999 : Int32))) → Q (uI σ 33 49 (1 : Int32)) (some (.int (0 : Int32))))
    (k36 : (isPl v1) → (isPl v2) → (¬ (isCa v3)) → (¬ (zI σ 33 16) = 0) → ((8 : Int32) ≤ (zI σ 33 16)) → (¬ v1 = v2) → (isWi v4 (zI σ 33 0) (999 : Int32)) → Q (uI σ 33 49 (1 : Int32)) (some (.int (0 : Int32))))
    (o3 : (isPl v1) → (isPl v2) → (¬ (isCa v3)) → (¬ (zI σ 33 16) = 0) → (¬ (8 : Int32) ≤ (zI σ 33 16)) → vp_in ((zI σ 33 16) - (1 : Int32)) 8)
    (k37 : (isPl v1) → (isPl v2) → (¬ (isCa v3)) → (¬ (zI σ 33 16) = 0) → (¬ (8 : Int32) ≤ (zI σ 33 16)) → (¬ (zI σ 47 (Int32.toNatClampNeg ((zI σ 33 16) - (1 : Int32)))) = v1) → (v1 = v2) → Q (uI σ 33 49 (1 : Int32)) (some (.int (0 : Int32))))
    (k38 : (isPl v1) → (isPl v2) → (¬ (isCa v3)) → (¬ (zI σ 33 16) = 0) → (¬ (8 : Int32) ≤ (zI σ 33 16)) → (¬ (zI σ 47 (Int32.toNatClampNeg ((zI σ 33 16) - (1 : Int32)))) = v1) → (¬ v1 = v2) → (¬ (isWi v4 (zI σ 33 0) (999 : Int32))) → Q (uI σ 33 49 (1 : Int32)) (some (.int (0 : Int32))))
    (k39 : (isPl v1) → (isPl v2) → (¬ (isCa v3)) → (¬ (zI σ 33 16) = 0) → (¬ (8 : Int32) ≤ (zI σ 33 16)) → (¬ (zI σ 47 (Int32.toNatClampNeg ((zI σ 33 16) - (1 : Int32)))) = v1) → (¬ v1 = v2) → (isWi v4 (zI σ 33 0) (999 : Int32)) → Q (uI σ 33 49 (1 : Int32)) (some (.int (0 : Int32))))
    (k40 : (isPl v1) → (isPl v2) → (¬ (isCa v3)) → (¬ (zI σ 33 16) = 0) → (¬ (8 : Int32) ≤ (zI σ 33 16)) → ((zI σ 47 (Int32.toNatClampNeg ((zI σ 33 16) - (1 : Int32)))) = v1) → (v4 < (zI σ 49 (Int32.toNatClampNeg ((zI σ 33 16) - (1 : Int32))))) → (v1 = v2) → Q (uI σ 33 49 (1 : Int32)) (some (.int (0 : Int32))))
    (k41 : (isPl v1) → (isPl v2) → (¬ (isCa v3)) → (¬ (zI σ 33 16) = 0) → (¬ (8 : Int32) ≤ (zI σ 33 16)) → ((zI σ 47 (Int32.toNatClampNeg ((zI σ 33 16) - (1 : Int32)))) = v1) → (v4 < (zI σ 49 (Int32.toNatClampNeg ((zI σ 33 16) - (1 : Int32))))) → (¬ v1 = v2) → (¬ (isWi v4 (zI σ 33 0) (999 : Int32))) → Q (uI σ 33 49 (1 : Int32)) (some (.int (0 : Int32))))
    (k42 : (isPl v1) → (isPl v2) → (¬ (isCa v3)) → (¬ (zI σ 33 16) = 0) → (¬ (8 : Int32) ≤ (zI σ 33 16)) → ((zI σ 47 (Int32.toNatClampNeg ((zI σ 33 16) - (1 : Int32)))) = v1) → (v4 < (zI σ 49 (Int32.toNatClampNeg ((zI σ 33 16) - (1 : Int32))))) → (¬ v1 = v2) → (isWi v4 (zI σ 33 0) (999 : Int32)) → Q (uI σ 33 49 (1 : Int32)) (some (.int (0 : Int32))))
    (k43 : (isPl v1) → (isPl v2) → (¬ (isCa v3)) → (¬ (zI σ 33 16) = 0) → (¬ (8 : Int32) ≤ (zI σ 33 16)) → ((zI σ 47 (Int32.toNatClampNeg ((zI σ 33 16) - (1 : Int32)))) = v1) → (¬ v4 < (zI σ 49 (Int32.toNatClampNeg ((zI σ 33 16) - (1 : Int32))))) → (v1 = v2) → Q (uI σ 33 49 (1 : Int32)) (some (.int (0 : Int32))))
    (k44 : (isPl v1) → (isPl v2) → (¬ (isCa v3)) → (¬ (zI σ 33 16) = 0) → (¬ (8 : Int32) ≤ (zI σ 33 16)) → ((zI σ 47 (Int32.toNatClampNeg ((zI σ 33 16) - (1 : Int32)))) = v1) → (¬ v4 < (zI σ 49 (Int32.toNatClampNeg ((zI σ 33 16) - (1 : Int32))))) → (¬ v1 = v2) → (¬ (isWi v4 (zI σ 33 0) (999 : Int32))) → Q (uI σ 33 49 (1 : Int32)) (some (.int (0 : Int32))))
    (k45 : (isPl v1) → (isPl v2) → (¬ (isCa v3)) → (¬ (zI σ 33 16) = 0) → (¬ (8 : Int32) ≤ (zI σ 33 16)) → ((zI σ 47 (Int32.toNatClampNeg ((zI σ 33 16) - (1 : Int32)))) = v1) → (¬ v4 < (zI σ 49 (Int32.toNatClampNeg ((zI σ 33 16) - (1 : Int32))))) → (¬ v1 = v2) → (isWi v4 (zI σ 33 0) (999 : Int32)) → Q (uI σ 33 49 (1 : Int32)) (some (.int (0 : Int32))))
    (o4 : (isPl v1) → (isPl v2) → (isCa v3) → ((zI σ 33 16) = 0) → (v1 = v2) → vp_in (((10 : Int32) * v1) + v2) 100)
    (k46 : (isPl v1) → (isPl v2) → (isCa v3) → ((zI σ 33 16) = 0) → (v1 = v2) → ((zI σ 34 (Int32.toNatClampNeg (((10 : Int32) * v1) + v2))) ≤ 0) → Q (uI σ 33 49 (2 : Int32)) (some (.int (0 : Int32))))
    (k47 : (isPl v1) → (isPl v2) → (isCa v3) → ((zI σ 33 16) = 0) → (v1 = v2) → (¬ (zI σ 34 (Int32.toNatClampNeg (((10 : Int32) * v1) + v2))) ≤ 0) → Q (uI σ 33 49 (2 : Int32)) (some (.int (0 : Int32))))
    (o5 : (isPl v1) → (isPl v2) → (isCa v3) → ((zI σ 33 16) = 0) → (¬ v1 = v2) → (¬ (isWi v4 (zI σ 33 0) (999 : Int32))) → vp_in (((10 : Int32) * v1) + v2) 100)
    (k48 : (isPl v1) → (isPl v2) → (isCa v3) → ((zI σ 33 16) = 0) → (¬ v1 = v2) → (¬ (isWi v4 (zI σ 33 0) (999 : Int32))) → ((zI σ 34 (Int32.toNatClampNeg (((10 : Int32) * v1) + v2))) ≤ 0) → Q (uI σ 33 49 (2 : Int32)) (some (.int (0 : Int32))))
    (k49 : (isPl v1) → (isPl v2) → (isCa v3) → ((zI σ 33 16) = 0) → (¬ v1 = v2) → (¬ (isWi v4 (zI σ 33 0) (999 : Int32))) → (¬ (zI σ 34 (Int32.toNatClampNeg (((10 : Int32) * v1) + v2))) ≤ 0) → Q (uI σ 33 49 (2 : Int32)) (some (.int (0 : Int32))))
    (o6 : (isPl v1) → (isPl v2) → (isCa v3) → ((zI σ 33 16) = 0) → (¬ v1 = v2) → (isWi v4 (zI σ 33 0) (999 : Int32)) → vp_in (((10 : Int32) * v1) + v2) 100)
    (k50 : (isPl v1) → (isPl v2) → (isCa v3) → ((zI σ 33 16) = 0) → (¬ v1 = v2) → (isWi v4 (zI σ 33 0) (999 : Int32)) → ((zI σ 34 (Int32.toNatClampNeg (((10 : Int32) * v1) + v2))) ≤ 0) → Q (uI σ 33 49 (3 : Int32)) (some (.int (0 : Int32))))
    (o7 : (isPl v1) → (isPl v2) → (isCa v3) → ((zI σ 33 16) = 0) → (¬ v1 = v2) → (isWi v4 (zI σ 33 0) (999 : Int32)) → (¬ (zI σ 34 (Int32.toNatClampNeg (((10 : Int32) * v1) + v2))) ≤ 0) → vp_in (zI σ 33 16) 8)
    (k51 : (isPl v1) → (isPl v2) → (isCa v3) → ((zI σ 33 16) = 0) → (¬ v1 = v2) → (isWi v4 (zI σ 33 0) (999 : Int32)) → (¬ (zI σ 34 (Int32.toNatClampNeg (((10 : Int32) * v1) + v2))) ≤ 0) → Q (uI (uI (uI (uI (uI (uI σ 33 49 (0 : Int32)) 46 (Int32.toNatClampNeg (zI σ 33 16)) v1) 47 (Int32.toNatClampNeg (zI σ 33 16)) v2) 48 (Int32.toNatClampNeg (zI σ 33 16)) v3) 49 (Int32.toNatClampNeg (zI σ 33 16)) v4) 33 16 ((zI σ 33 16) + (1 : Int32))) (some (.int ((zI σ 33 16) + (1 : Int32)))))
    (k52 : (isPl v1) → (isPl v2) → (isCa v3) → (¬ (zI σ 33 16) = 0) → ((8 : Int32) ≤ (zI σ 33 16)) → (v1 = v2) → Q (uI σ 33 49 (2 : Int32)) (some (.int (0 : Int32))))
    (k53 : (isPl v1) → (isPl v2) → (isCa v3) → (¬ (zI σ 33 16) = 0) → ((8 : Int32) ≤ (zI σ 33 16)) → (¬ v1 = v2) → (¬ (isWi v4 (zI σ 33 0) (999 : Int32))) → Q (uI σ 33 49 (2 : Int32)) (some (.int (0 : Int32))))
    (k54 : (isPl v1) → (isPl v2) → (isCa v3) → (¬ (zI σ 33 16) = 0) → ((8 : Int32) ≤ (zI σ 33 16)) → (¬ v1 = v2) → (isWi v4 (zI σ 33 0) (999 : Int32)) → Q (uI σ 33 49 (3 : Int32)) (some (.int (0 : Int32))))
    (o8 : (isPl v1) → (isPl v2) → (isCa v3) → (¬ (zI σ 33 16) = 0) → (¬ (8 : Int32) ≤ (zI σ 33 16)) → vp_in ((zI σ 33 16) - (1 : Int32)) 8)
    (k55 : (isPl v1) → (isPl v2) → (isCa v3) → (¬ (zI σ 33 16) = 0) → (¬ (8 : Int32) ≤ (zI σ 33 16)) → (¬ (zI σ 47 (Int32.toNatClampNeg ((zI σ 33 16) - (1 : Int32)))) = v1) → (v1 = v2) → Q (uI σ 33 49 (2 : Int32)) (some (.int (0 : Int32))))
    (k56 : (isPl v1) → (isPl v2) → (isCa v3) → (¬ (zI σ 33 16) = 0) → (¬ (8 : Int32) ≤ (zI σ 33 16)) → (¬ (zI σ 47 (Int32.toNatClampNeg ((zI σ 33 16) - (1 : Int32)))) = v1) → (¬ v1 = v2) → (¬ (isWi v4 (zI σ 33 0) (999 : Int32))) → Q (uI σ 33 49 (2 : Int32)) (some (.int (0 : Int32))))
    (k57 : (isPl v1) → (isPl v2) → (isCa v3) → (¬ (zI σ 33 16) = 0) → (¬ (8 : Int32) ≤ (zI σ 33 16)) → (¬ (zI σ 47 (Int32.toNatClampNeg ((zI σ 33 16) - (1 : Int32)))) = v1) → (¬ v1 = v2) → (isWi v4 (zI σ 33 0) (999 : Int32)) → Q (uI σ 33 49 (3 : Int32)) (some (.int (0 : Int32))))
    (k58 : (isPl v1) → (isPl v2) → (isCa v3) → (¬ (zI σ 33 16) = 0) → (¬ (8 : Int32) ≤ (zI σ 33 16)) → ((zI σ 47 (Int32.toNatClampNeg ((zI σ 33 16) - (1 : Int32)))) = v1) → (v4 < (zI σ 49 (Int32.toNatClampNeg ((zI σ 33 16) - (1 : Int32))))) → (v1 = v2) → Q (uI σ 33 49 (2 : Int32)) (some (.int (0 : Int32))))
    (k59 : (isPl v1) → (isPl v2) → (isCa v3) → (¬ (zI σ 33 16) = 0) → (¬ (8 : Int32) ≤ (zI σ 33 16)) → ((zI σ 47 (Int32.toNatClampNeg ((zI σ 33 16) - (1 : Int32)))) = v1) → (v4 < (zI σ 49 (Int32.toNatClampNeg ((zI σ 33 16) - (1 : Int32))))) → (¬ v1 = v2) → (¬ (isWi v4 (zI σ 33 0) (999 : Int32))) → Q (uI σ 33 49 (2 : Int32)) (some (.int (0 : Int32))))
    (k60 : (isPl v1) → (isPl v2) → (isCa v3) → (¬ (zI σ 33 16) = 0) → (¬ (8 : Int32) ≤ (zI σ 33 16)) → ((zI σ 47 (Int32.toNatClampNeg ((zI σ 33 16) - (1 : Int32)))) = v1) → (v4 < (zI σ 49 (Int32.toNatClampNeg ((zI σ 33 16) - (1 : Int32))))) → (¬ v1 = v2) → (isWi v4 (zI σ 33 0) (999 : Int32)) → Q (uI σ 33 49 (3 : Int32)) (some (.int (0 : Int32))))
    (o9 : (isPl v1) → (isPl v2) → (isCa v3) → (¬ (zI σ 33 16) = 0) → (¬ (8 : Int32) ≤ (zI σ 33 16)) → ((zI σ 47 (Int32.toNatClampNeg ((zI σ 33 16) - (1 : Int32)))) = v1) → (¬ v4 < (zI σ 49 (Int32.toNatClampNeg ((zI σ 33 16) - (1 : Int32))))) → (v1 = v2) → vp_in (((10 : Int32) * v1) + v2) 100)
    (k61 : (isPl v1) → (isPl v2) → (isCa v3) → (¬ (zI σ 33 16) = 0) → (¬ (8 : Int32) ≤ (zI σ 33 16)) → ((zI σ 47 (Int32.toNatClampNeg ((zI σ 33 16) - (1 : Int32)))) = v1) → (¬ v4 < (zI σ 49 (Int32.toNatClampNeg ((zI σ 33 16) - (1 : Int32))))) → (v1 = v2) → ((zI σ 34 (Int32.toNatClampNeg (((10 : Int32) * v1) + v2))) ≤ 0) → Q (uI σ 33 49 (2 : Int32)) (some (.int (0 : Int32))))
    (k62 : (isPl v1) → (isPl v2) → (isCa v3) → (¬ (zI σ 33 16) = 0) → (¬ (8 : Int32) ≤ (zI σ 33 16)) → ((zI σ 47 (Int32.toNatClampNeg ((zI σ 33 16) - (1 : Int32)))) = v1) → (¬ v4 < (zI σ 49 (Int32.toNatClampNeg ((zI σ 33 16) - (1 : Int32))))) → (v1 = v2) → (¬ (zI σ 34 (Int32.toNatClampNeg (((10 : Int32) * v1) + v2))) ≤ 0) → Q (uI σ 33 49 (2 : Int32)) (some (.int (0 : Int32))))
    (o10 : (isPl v1) → (isPl v2) → (isCa v3) → (¬ (zI σ 33 16) = 0) → (¬ (8 : Int32) ≤ (zI σ 33 16)) → ((zI σ 47 (Int32.toNatClampNeg ((zI σ 33 16) - (1 : Int32)))) = v1) → (¬ v4 < (zI σ 49 (Int32.toNatClampNeg ((zI σ 33 16) - (1 : Int32))))) → (¬ v1 = v2) → (¬ (isWi v4 (zI σ 33 0) (999 : Int32))) → vp_in (((10 : Int32) * v1) + v2) 100)
    (k63 : (isPl v1) → (isPl v2) → (isCa v3) → (¬ (zI σ 33 16) = 0) → (¬ (8 : Int32) ≤ (zI σ 33 16)) → ((zI σ 47 (Int32.toNatClampNeg ((zI σ 33 16) - (1 : Int32)))) = v1) → (¬ v4 < (zI σ 49 (Int32.toNatClampNeg ((zI σ 33 16) - (1 : Int32))))) → (¬ v1 = v2) → (¬ (isWi v4 (zI σ 33 0) (999 : Int32))) → ((zI σ 34 (Int32.toNatClampNeg (((10 : Int32) * v1) + v2))) ≤ 0) → Q (uI σ 33 49 (2 : Int32)) (some (.int (0 : Int32))))
    (k64 : (isPl v1) → (isPl v2) → (isCa v3) → (¬ (zI σ 33 16) = 0) → (¬ (8 : Int32) ≤ (zI σ 33 16)) → ((zI σ 47 (Int32.toNatClampNeg ((zI σ 33 16) - (1 : Int32)))) = v1) → (¬ v4 < (zI σ 49 (Int32.toNatClampNeg ((zI σ 33 16) - (1 : Int32))))) → (¬ v1 = v2) → (¬ (isWi v4 (zI σ 33 0) (999 : Int32))) → (¬ (zI σ 34 (Int32.toNatClampNeg (((10 : Int32) * v1) + v2))) ≤ 0) → Q (uI σ 33 49 (2 : Int32)) (some (.int (0 : Int32))))
    (o11 : (isPl v1) → (isPl v2) → (isCa v3) → (¬ (zI σ 33 16) = 0) → (¬ (8 : Int32) ≤ (zI σ 33 16)) → ((zI σ 47 (Int32.toNatClampNeg ((zI σ 33 16) - (1 : Int32)))) = v1) → (¬ v4 < (zI σ 49 (Int32.toNatClampNeg ((zI σ 33 16) - (1 : Int32))))) → (¬ v1 = v2) → (isWi v4 (zI σ 33 0) (999 : Int32)) → vp_in (((10 : Int32) * v1) + v2) 100)
    (k65 : (isPl v1) → (isPl v2) → (isCa v3) → (¬ (zI σ 33 16) = 0) → (¬ (8 : Int32) ≤ (zI σ 33 16)) → ((zI σ 47 (Int32.toNatClampNeg ((zI σ 33 16) - (1 : Int32)))) = v1) → (¬ v4 < (zI σ 49 (Int32.toNatClampNeg ((zI σ 33 16) - (1 : Int32))))) → (¬ v1 = v2) → (isWi v4 (zI σ 33 0) (999 : Int32)) → ((zI σ 34 (Int32.toNatClampNeg (((10 : Int32) * v1) + v2))) ≤ 0) → Q (uI σ 33 49 (3 : Int32)) (some (.int (0 : Int32))))
    (o12 : (isPl v1) → (isPl v2) → (isCa v3) → (¬ (zI σ 33 16) = 0) → (¬ (8 : Int32) ≤ (zI σ 33 16)) → ((zI σ 47 (Int32.toNatClampNeg ((zI σ 33 16) - (1 : Int32)))) = v1) → (¬ v4 < (zI σ 49 (Int32.toNatClampNeg ((zI σ 33 16) - (1 : Int32))))) → (¬ v1 = v2) → (isWi v4 (zI σ 33 0) (999 : Int32)) → (¬ (zI σ 34 (Int32.toNatClampNeg (((10 : Int32) * v1) + v2))) ≤ 0) → vp_in (zI σ 33 16) 8)
    (k66 : (isPl v1) → (isPl v2) → (isCa v3) → (¬ (zI σ 33 16) = 0) → (¬ (8 : Int32) ≤ (zI σ 33 16)) → ((zI σ 47 (Int32.toNatClampNeg ((zI σ 33 16) - (1 : Int32)))) = v1) → (¬ v4 < (zI σ 49 (Int32.toNatClampNeg ((zI σ 33 16) - (1 : Int32))))) → (¬ v1 = v2) → (isWi v4 (zI σ 33 0) (999 : Int32)) → (¬ (zI σ 34 (Int32.toNatClampNeg (((10 : Int32) * v1) + v2))) ≤ 0) → Q (uI (uI (uI (uI (uI (uI σ 33 49 (0 : Int32)) 46 (Int32.toNatClampNeg (zI σ 33 16)) v1) 47 (Int32.toNatClampNeg (zI σ 33 16)) v2) 48 (Int32.toNatClampNeg (zI σ 33 16)) v3) 49 (Int32.toNatClampNeg (zI σ 33 16)) v4) 33 16 ((zI σ 33 16) + (1 : Int32))) (some (.int ((zI σ 33 16) + (1 : Int32))))) :
    V g mX12_leg (Em g mX12_leg Q X) CX 0 0 0 [(0, .ref 33), (1, .int v1), (2, .int v2), (3, .int v3), (4, .int v4)] [] σ := by
  refine V_iload_n dX12_leg_0 rfl ?_
  refine V_callS1 (as := [.int v1]) (k' := 0) (n' := 0) (s_X12_isPlace) mw_X12_isPlace w_1216 w_1215 ar_X12_isPlace rfl ⟨rfl, rfl, rfl, rfl, rfl⟩ dX12_leg_1 ?_
  refine V_if_eq 25 dX12_leg_4 rfl (fun c1 => ?_) (fun c1 => ?_)
  · replace c1 := jb_0.mp c1
    refine V_iconst (0 : Int32) dX12_leg_25 (by decide) ?_
    refine V_istore [(0, .ref 33), (1, .int v1), (2, .int v2), (3, .int v3), (4, .int v4), (5, .int (0 : Int32))] dX12_leg_26 rfl rfl ?_
    refine V_aload_n dX12_leg_28 rfl ?_
    refine V_getf (fk := 16) (Value.int (zI σ 33 16)) ko_X12 rfl w_1071 dX12_leg_29 (by decide) (shk hS 33 rfl) rfl ?_
    refine V_if_eq 75 dX12_leg_32 rfl (fun c2 => ?_) (fun c2 => ?_)
    · refine V_iconst (1 : Int32) dX12_leg_75 (by decide) ?_
      refine V_goto 80 dX12_leg_76 rfl ?_
      refine V_istore [(0, .ref 33), (1, .int v1), (2, .int v2), (3, .int v3), (4, .int v4), (5, .int (0 : Int32)), (6, .int (1 : Int32))] dX12_leg_80 rfl rfl ?_
      refine V_aload_n dX12_leg_82 rfl ?_
      refine V_iload dX12_leg_83 rfl ?_
      refine V_iload_n dX12_leg_85 rfl ?_
      refine V_iload_n dX12_leg_86 rfl ?_
      refine V_icmp_eq 109 dX12_leg_87 rfl (fun c3 => ?_) (fun c3 => ?_)
      · refine V_iconst (0 : Int32) dX12_leg_109 (by decide) ?_
        refine V_iload dX12_leg_110 rfl ?_
        refine V_if_eq 147 dX12_leg_112 rfl (fun _ => ?_) (fun z_ => (by first | exact absurd (by decide) z_ | exact absurd z_ (by decide)))
        refine V_iconst (0 : Int32) dX12_leg_147 (by decide) ?_
        refine V_callV1 (as := [.int (0 : Int32), .int (0 : Int32), .int (0 : Int32)]) (k' := 0) (n' := 0) (s_goes1 hS) mw_X12_goes ko_X12 rfl w_1223 w_20 w_1221 ar_X12_goes rfl ⟨rfl, rfl, rfl, rfl, rfl⟩ dX12_leg_148 (by decide) (shk hS 33 rfl) ?_
        refine V_if_ne 156 dX12_leg_151 rfl (fun z_ => (by first | exact absurd (by decide) z_ | exact absurd z_ (by decide))) (fun _ => ?_)
        refine V_iconst (0 : Int32) dX12_leg_154 (by decide) ?_
        exact V_iret rfl dX12_leg_155 (k1 c1 c2 c3)
      · refine V_iload dX12_leg_90 rfl ?_
        refine V_aload_n dX12_leg_92 rfl ?_
        refine V_getf (fk := 0) (Value.int (zI σ 33 0)) ko_X12 rfl w_1055 dX12_leg_93 (by decide) (shk hS 33 rfl) rfl ?_
        refine V_sipush (999 : Int32) dX12_leg_96 (by decide) ?_
        refine V_callS1 (as := [.int v4, .int (zI σ 33 0), .int (999 : Int32)]) (k' := 0) (n' := 0) (s_X12_in) mw_X12_in w_1219 w_1218 ar_X12_in rfl ⟨rfl, rfl, rfl, rfl, rfl⟩ dX12_leg_99 ?_
        refine V_if_eq 109 dX12_leg_102 rfl (fun c4 => ?_) (fun c4 => ?_)
        · replace c4 := jb_0.mp c4
          refine V_iconst (0 : Int32) dX12_leg_109 (by decide) ?_
          refine V_iload dX12_leg_110 rfl ?_
          refine V_if_eq 147 dX12_leg_112 rfl (fun _ => ?_) (fun z_ => (by first | exact absurd (by decide) z_ | exact absurd z_ (by decide)))
          refine V_iconst (0 : Int32) dX12_leg_147 (by decide) ?_
          refine V_callV1 (as := [.int (0 : Int32), .int (0 : Int32), .int (0 : Int32)]) (k' := 0) (n' := 0) (s_goes1 hS) mw_X12_goes ko_X12 rfl w_1223 w_20 w_1221 ar_X12_goes rfl ⟨rfl, rfl, rfl, rfl, rfl⟩ dX12_leg_148 (by decide) (shk hS 33 rfl) ?_
          refine V_if_ne 156 dX12_leg_151 rfl (fun z_ => (by first | exact absurd (by decide) z_ | exact absurd z_ (by decide))) (fun _ => ?_)
          refine V_iconst (0 : Int32) dX12_leg_154 (by decide) ?_
          exact V_iret rfl dX12_leg_155 (k2 c1 c2 c3 c4)
        · replace c4 := jb_n.mp c4
          refine V_iconst (1 : Int32) dX12_leg_105 (by decide) ?_
          refine V_goto 110 dX12_leg_106 rfl ?_
          refine V_iload dX12_leg_110 rfl ?_
          refine V_if_eq 147 dX12_leg_112 rfl (fun _ => ?_) (fun z_ => (by first | exact absurd (by decide) z_ | exact absurd z_ (by decide)))
          refine V_iconst (0 : Int32) dX12_leg_147 (by decide) ?_
          refine V_callV1 (as := [.int (0 : Int32), .int (1 : Int32), .int (0 : Int32)]) (k' := 0) (n' := 0) (s_goes1 hS) mw_X12_goes ko_X12 rfl w_1223 w_20 w_1221 ar_X12_goes rfl ⟨rfl, rfl, rfl, rfl, rfl⟩ dX12_leg_148 (by decide) (shk hS 33 rfl) ?_
          refine V_if_ne 156 dX12_leg_151 rfl (fun z_ => (by first | exact absurd (by decide) z_ | exact absurd z_ (by decide))) (fun _ => ?_)
          refine V_iconst (0 : Int32) dX12_leg_154 (by decide) ?_
          exact V_iret rfl dX12_leg_155 (k3 c1 c2 c3 c4)
    · refine V_aload_n dX12_leg_35 rfl ?_
      refine V_getf (fk := 16) (Value.int (zI σ 33 16)) ko_X12 rfl w_1071 dX12_leg_36 (by decide) (shk hS 33 rfl) rfl ?_
      refine V_bipush (8 : Int32) dX12_leg_39 (by decide) ?_
      refine V_icmp_ge 79 dX12_leg_41 rfl (fun c5 => ?_) (fun c5 => ?_)
      · refine V_iconst (0 : Int32) dX12_leg_79 (by decide) ?_
        refine V_istore [(0, .ref 33), (1, .int v1), (2, .int v2), (3, .int v3), (4, .int v4), (5, .int (0 : Int32)), (6, .int (0 : Int32))] dX12_leg_80 rfl rfl ?_
        refine V_aload_n dX12_leg_82 rfl ?_
        refine V_iload dX12_leg_83 rfl ?_
        refine V_iload_n dX12_leg_85 rfl ?_
        refine V_iload_n dX12_leg_86 rfl ?_
        refine V_icmp_eq 109 dX12_leg_87 rfl (fun c6 => ?_) (fun c6 => ?_)
        · refine V_iconst (0 : Int32) dX12_leg_109 (by decide) ?_
          refine V_iload dX12_leg_110 rfl ?_
          refine V_if_eq 147 dX12_leg_112 rfl (fun _ => ?_) (fun z_ => (by first | exact absurd (by decide) z_ | exact absurd z_ (by decide)))
          refine V_iconst (0 : Int32) dX12_leg_147 (by decide) ?_
          refine V_callV1 (as := [.int (0 : Int32), .int (0 : Int32), .int (0 : Int32)]) (k' := 0) (n' := 0) (s_goes1 hS) mw_X12_goes ko_X12 rfl w_1223 w_20 w_1221 ar_X12_goes rfl ⟨rfl, rfl, rfl, rfl, rfl⟩ dX12_leg_148 (by decide) (shk hS 33 rfl) ?_
          refine V_if_ne 156 dX12_leg_151 rfl (fun z_ => (by first | exact absurd (by decide) z_ | exact absurd z_ (by decide))) (fun _ => ?_)
          refine V_iconst (0 : Int32) dX12_leg_154 (by decide) ?_
          exact V_iret rfl dX12_leg_155 (k4 c1 c2 c5 c6)
        · refine V_iload dX12_leg_90 rfl ?_
          refine V_aload_n dX12_leg_92 rfl ?_
          refine V_getf (fk := 0) (Value.int (zI σ 33 0)) ko_X12 rfl w_1055 dX12_leg_93 (by decide) (shk hS 33 rfl) rfl ?_
          refine V_sipush (999 : Int32) dX12_leg_96 (by decide) ?_
          refine V_callS1 (as := [.int v4, .int (zI σ 33 0), .int (999 : Int32)]) (k' := 0) (n' := 0) (s_X12_in) mw_X12_in w_1219 w_1218 ar_X12_in rfl ⟨rfl, rfl, rfl, rfl, rfl⟩ dX12_leg_99 ?_
          refine V_if_eq 109 dX12_leg_102 rfl (fun c7 => ?_) (fun c7 => ?_)
          · replace c7 := jb_0.mp c7
            refine V_iconst (0 : Int32) dX12_leg_109 (by decide) ?_
            refine V_iload dX12_leg_110 rfl ?_
            refine V_if_eq 147 dX12_leg_112 rfl (fun _ => ?_) (fun z_ => (by first | exact absurd (by decide) z_ | exact absurd z_ (by decide)))
            refine V_iconst (0 : Int32) dX12_leg_147 (by decide) ?_
            refine V_callV1 (as := [.int (0 : Int32), .int (0 : Int32), .int (0 : Int32)]) (k' := 0) (n' := 0) (s_goes1 hS) mw_X12_goes ko_X12 rfl w_1223 w_20 w_1221 ar_X12_goes rfl ⟨rfl, rfl, rfl, rfl, rfl⟩ dX12_leg_148 (by decide) (shk hS 33 rfl) ?_
            refine V_if_ne 156 dX12_leg_151 rfl (fun z_ => (by first | exact absurd (by decide) z_ | exact absurd z_ (by decide))) (fun _ => ?_)
            refine V_iconst (0 : Int32) dX12_leg_154 (by decide) ?_
            exact V_iret rfl dX12_leg_155 (k5 c1 c2 c5 c6 c7)
          · replace c7 := jb_n.mp c7
            refine V_iconst (1 : Int32) dX12_leg_105 (by decide) ?_
            refine V_goto 110 dX12_leg_106 rfl ?_
            refine V_iload dX12_leg_110 rfl ?_
            refine V_if_eq 147 dX12_leg_112 rfl (fun _ => ?_) (fun z_ => (by first | exact absurd (by decide) z_ | exact absurd z_ (by decide)))
            refine V_iconst (0 : Int32) dX12_leg_147 (by decide) ?_
            refine V_callV1 (as := [.int (0 : Int32), .int (1 : Int32), .int (0 : Int32)]) (k' := 0) (n' := 0) (s_goes1 hS) mw_X12_goes ko_X12 rfl w_1223 w_20 w_1221 ar_X12_goes rfl ⟨rfl, rfl, rfl, rfl, rfl⟩ dX12_leg_148 (by decide) (shk hS 33 rfl) ?_
            refine V_if_ne 156 dX12_leg_151 rfl (fun z_ => (by first | exact absurd (by decide) z_ | exact absurd z_ (by decide))) (fun _ => ?_)
            refine V_iconst (0 : Int32) dX12_leg_154 (by decide) ?_
            exact V_iret rfl dX12_leg_155 (k6 c1 c2 c5 c6 c7)
      · refine V_aload_n dX12_leg_44 rfl ?_
        refine V_getf (fk := 18) (Value.ref 47) ko_X12 rfl w_1073 dX12_leg_45 (by decide) (shk hS 33 rfl) (congrArg Value.ref (shr hS 33 18 47 (by decide))) ?_
        refine V_aload_n dX12_leg_48 rfl ?_
        refine V_getf (fk := 16) (Value.int (zI σ 33 16)) ko_X12 rfl w_1071 dX12_leg_49 (by decide) (shk hS 33 rfl) rfl ?_
        refine V_iconst (1 : Int32) dX12_leg_52 (by decide) ?_
        refine V_isub dX12_leg_53 ?_
        refine V_iald dX12_leg_54 (by decide) (shk hS 47 rfl) (vp_l (n := 8) (shl hS 47 rfl) (o1 c1 c2 c5)) ?_
        refine V_iload_n dX12_leg_55 rfl ?_
        refine V_icmp_ne 79 dX12_leg_56 rfl (fun c8 => ?_) (fun c8 => ?_)
        · refine V_iconst (0 : Int32) dX12_leg_79 (by decide) ?_
          refine V_istore [(0, .ref 33), (1, .int v1), (2, .int v2), (3, .int v3), (4, .int v4), (5, .int (0 : Int32)), (6, .int (0 : Int32))] dX12_leg_80 rfl rfl ?_
          refine V_aload_n dX12_leg_82 rfl ?_
          refine V_iload dX12_leg_83 rfl ?_
          refine V_iload_n dX12_leg_85 rfl ?_
          refine V_iload_n dX12_leg_86 rfl ?_
          refine V_icmp_eq 109 dX12_leg_87 rfl (fun c9 => ?_) (fun c9 => ?_)
          · refine V_iconst (0 : Int32) dX12_leg_109 (by decide) ?_
            refine V_iload dX12_leg_110 rfl ?_
            refine V_if_eq 147 dX12_leg_112 rfl (fun _ => ?_) (fun z_ => (by first | exact absurd (by decide) z_ | exact absurd z_ (by decide)))
            refine V_iconst (0 : Int32) dX12_leg_147 (by decide) ?_
            refine V_callV1 (as := [.int (0 : Int32), .int (0 : Int32), .int (0 : Int32)]) (k' := 0) (n' := 0) (s_goes1 hS) mw_X12_goes ko_X12 rfl w_1223 w_20 w_1221 ar_X12_goes rfl ⟨rfl, rfl, rfl, rfl, rfl⟩ dX12_leg_148 (by decide) (shk hS 33 rfl) ?_
            refine V_if_ne 156 dX12_leg_151 rfl (fun z_ => (by first | exact absurd (by decide) z_ | exact absurd z_ (by decide))) (fun _ => ?_)
            refine V_iconst (0 : Int32) dX12_leg_154 (by decide) ?_
            exact V_iret rfl dX12_leg_155 (k7 c1 c2 c5 c8 c9)
          · refine V_iload dX12_leg_90 rfl ?_
            refine V_aload_n dX12_leg_92 rfl ?_
            refine V_getf (fk := 0) (Value.int (zI σ 33 0)) ko_X12 rfl w_1055 dX12_leg_93 (by decide) (shk hS 33 rfl) rfl ?_
            refine V_sipush (999 : Int32) dX12_leg_96 (by decide) ?_
            refine V_callS1 (as := [.int v4, .int (zI σ 33 0), .int (999 : Int32)]) (k' := 0) (n' := 0) (s_X12_in) mw_X12_in w_1219 w_1218 ar_X12_in rfl ⟨rfl, rfl, rfl, rfl, rfl⟩ dX12_leg_99 ?_
            refine V_if_eq 109 dX12_leg_102 rfl (fun c10 => ?_) (fun c10 => ?_)
            · replace c10 := jb_0.mp c10
              refine V_iconst (0 : Int32) dX12_leg_109 (by decide) ?_
              refine V_iload dX12_leg_110 rfl ?_
              refine V_if_eq 147 dX12_leg_112 rfl (fun _ => ?_) (fun z_ => (by first | exact absurd (by decide) z_ | exact absurd z_ (by decide)))
              refine V_iconst (0 : Int32) dX12_leg_147 (by decide) ?_
              refine V_callV1 (as := [.int (0 : Int32), .int (0 : Int32), .int (0 : Int32)]) (k' := 0) (n' := 0) (s_goes1 hS) mw_X12_goes ko_X12 rfl w_1223 w_20 w_1221 ar_X12_goes rfl ⟨rfl, rfl, rfl, rfl, rfl⟩ dX12_leg_148 (by decide) (shk hS 33 rfl) ?_
              refine V_if_ne 156 dX12_leg_151 rfl (fun z_ => (by first | exact absurd (by decide) z_ | exact absurd z_ (by decide))) (fun _ => ?_)
              refine V_iconst (0 : Int32) dX12_leg_154 (by decide) ?_
              exact V_iret rfl dX12_leg_155 (k8 c1 c2 c5 c8 c9 c10)
            · replace c10 := jb_n.mp c10
              refine V_iconst (1 : Int32) dX12_leg_105 (by decide) ?_
              refine V_goto 110 dX12_leg_106 rfl ?_
              refine V_iload dX12_leg_110 rfl ?_
              refine V_if_eq 147 dX12_leg_112 rfl (fun _ => ?_) (fun z_ => (by first | exact absurd (by decide) z_ | exact absurd z_ (by decide)))
              refine V_iconst (0 : Int32) dX12_leg_147 (by decide) ?_
              refine V_callV1 (as := [.int (0 : Int32), .int (1 : Int32), .int (0 : Int32)]) (k' := 0) (n' := 0) (s_goes1 hS) mw_X12_goes ko_X12 rfl w_1223 w_20 w_1221 ar_X12_goes rfl ⟨rfl, rfl, rfl, rfl, rfl⟩ dX12_leg_148 (by decide) (shk hS 33 rfl) ?_
              refine V_if_ne 156 dX12_leg_151 rfl (fun z_ => (by first | exact absurd (by decide) z_ | exact absurd z_ (by decide))) (fun _ => ?_)
              refine V_iconst (0 : Int32) dX12_leg_154 (by decide) ?_
              exact V_iret rfl dX12_leg_155 (k9 c1 c2 c5 c8 c9 c10)
        · refine V_aload_n dX12_leg_59 rfl ?_
          refine V_getf (fk := 20) (Value.ref 49) ko_X12 rfl w_1075 dX12_leg_60 (by decide) (shk hS 33 rfl) (congrArg Value.ref (shr hS 33 20 49 (by decide))) ?_
          refine V_aload_n dX12_leg_63 rfl ?_
          refine V_getf (fk := 16) (Value.int (zI σ 33 16)) ko_X12 rfl w_1071 dX12_leg_64 (by decide) (shk hS 33 rfl) rfl ?_
          refine V_iconst (1 : Int32) dX12_leg_67 (by decide) ?_
          refine V_isub dX12_leg_68 ?_
          refine V_iald dX12_leg_69 (by decide) (shk hS 49 rfl) (vp_l (n := 8) (shl hS 49 rfl) (o1 c1 c2 c5)) ?_
          refine V_iload dX12_leg_70 rfl ?_
          refine V_icmp_gt 79 dX12_leg_72 rfl (fun c11 => ?_) (fun c11 => ?_)
          · refine V_iconst (0 : Int32) dX12_leg_79 (by decide) ?_
            refine V_istore [(0, .ref 33), (1, .int v1), (2, .int v2), (3, .int v3), (4, .int v4), (5, .int (0 : Int32)), (6, .int (0 : Int32))] dX12_leg_80 rfl rfl ?_
            refine V_aload_n dX12_leg_82 rfl ?_
            refine V_iload dX12_leg_83 rfl ?_
            refine V_iload_n dX12_leg_85 rfl ?_
            refine V_iload_n dX12_leg_86 rfl ?_
            refine V_icmp_eq 109 dX12_leg_87 rfl (fun c12 => ?_) (fun c12 => ?_)
            · refine V_iconst (0 : Int32) dX12_leg_109 (by decide) ?_
              refine V_iload dX12_leg_110 rfl ?_
              refine V_if_eq 147 dX12_leg_112 rfl (fun _ => ?_) (fun z_ => (by first | exact absurd (by decide) z_ | exact absurd z_ (by decide)))
              refine V_iconst (0 : Int32) dX12_leg_147 (by decide) ?_
              refine V_callV1 (as := [.int (0 : Int32), .int (0 : Int32), .int (0 : Int32)]) (k' := 0) (n' := 0) (s_goes1 hS) mw_X12_goes ko_X12 rfl w_1223 w_20 w_1221 ar_X12_goes rfl ⟨rfl, rfl, rfl, rfl, rfl⟩ dX12_leg_148 (by decide) (shk hS 33 rfl) ?_
              refine V_if_ne 156 dX12_leg_151 rfl (fun z_ => (by first | exact absurd (by decide) z_ | exact absurd z_ (by decide))) (fun _ => ?_)
              refine V_iconst (0 : Int32) dX12_leg_154 (by decide) ?_
              exact V_iret rfl dX12_leg_155 (k10 c1 c2 c5 c8 c11 c12)
            · refine V_iload dX12_leg_90 rfl ?_
              refine V_aload_n dX12_leg_92 rfl ?_
              refine V_getf (fk := 0) (Value.int (zI σ 33 0)) ko_X12 rfl w_1055 dX12_leg_93 (by decide) (shk hS 33 rfl) rfl ?_
              refine V_sipush (999 : Int32) dX12_leg_96 (by decide) ?_
              refine V_callS1 (as := [.int v4, .int (zI σ 33 0), .int (999 : Int32)]) (k' := 0) (n' := 0) (s_X12_in) mw_X12_in w_1219 w_1218 ar_X12_in rfl ⟨rfl, rfl, rfl, rfl, rfl⟩ dX12_leg_99 ?_
              refine V_if_eq 109 dX12_leg_102 rfl (fun c13 => ?_) (fun c13 => ?_)
              · replace c13 := jb_0.mp c13
                refine V_iconst (0 : Int32) dX12_leg_109 (by decide) ?_
                refine V_iload dX12_leg_110 rfl ?_
                refine V_if_eq 147 dX12_leg_112 rfl (fun _ => ?_) (fun z_ => (by first | exact absurd (by decide) z_ | exact absurd z_ (by decide)))
                refine V_iconst (0 : Int32) dX12_leg_147 (by decide) ?_
                refine V_callV1 (as := [.int (0 : Int32), .int (0 : Int32), .int (0 : Int32)]) (k' := 0) (n' := 0) (s_goes1 hS) mw_X12_goes ko_X12 rfl w_1223 w_20 w_1221 ar_X12_goes rfl ⟨rfl, rfl, rfl, rfl, rfl⟩ dX12_leg_148 (by decide) (shk hS 33 rfl) ?_
                refine V_if_ne 156 dX12_leg_151 rfl (fun z_ => (by first | exact absurd (by decide) z_ | exact absurd z_ (by decide))) (fun _ => ?_)
                refine V_iconst (0 : Int32) dX12_leg_154 (by decide) ?_
                exact V_iret rfl dX12_leg_155 (k11 c1 c2 c5 c8 c11 c12 c13)
              · replace c13 := jb_n.mp c13
                refine V_iconst (1 : Int32) dX12_leg_105 (by decide) ?_
                refine V_goto 110 dX12_leg_106 rfl ?_
                refine V_iload dX12_leg_110 rfl ?_
                refine V_if_eq 147 dX12_leg_112 rfl (fun _ => ?_) (fun z_ => (by first | exact absurd (by decide) z_ | exact absurd z_ (by decide)))
                refine V_iconst (0 : Int32) dX12_leg_147 (by decide) ?_
                refine V_callV1 (as := [.int (0 : Int32), .int (1 : Int32), .int (0 : Int32)]) (k' := 0) (n' := 0) (s_goes1 hS) mw_X12_goes ko_X12 rfl w_1223 w_20 w_1221 ar_X12_goes rfl ⟨rfl, rfl, rfl, rfl, rfl⟩ dX12_leg_148 (by decide) (shk hS 33 rfl) ?_
                refine V_if_ne 156 dX12_leg_151 rfl (fun z_ => (by first | exact absurd (by decide) z_ | exact absurd z_ (by decide))) (fun _ => ?_)
                refine V_iconst (0 : Int32) dX12_leg_154 (by decide) ?_
                exact V_iret rfl dX12_leg_155 (k12 c1 c2 c5 c8 c11 c12 c13)
          · refine V_iconst (1 : Int32) dX12_leg_75 (by decide) ?_
            refine V_goto 80 dX12_leg_76 rfl ?_
            refine V_istore [(0, .ref 33), (1, .int v1), (2, .int v2), (3, .int v3), (4, .int v4), (5, .int (0 : Int32)), (6, .int (1 : Int32))] dX12_leg_80 rfl rfl ?_
            refine V_aload_n dX12_leg_82 rfl ?_
            refine V_iload dX12_leg_83 rfl ?_
            refine V_iload_n dX12_leg_85 rfl ?_
            refine V_iload_n dX12_leg_86 rfl ?_
            refine V_icmp_eq 109 dX12_leg_87 rfl (fun c14 => ?_) (fun c14 => ?_)
            · refine V_iconst (0 : Int32) dX12_leg_109 (by decide) ?_
              refine V_iload dX12_leg_110 rfl ?_
              refine V_if_eq 147 dX12_leg_112 rfl (fun _ => ?_) (fun z_ => (by first | exact absurd (by decide) z_ | exact absurd z_ (by decide)))
              refine V_iconst (0 : Int32) dX12_leg_147 (by decide) ?_
              refine V_callV1 (as := [.int (0 : Int32), .int (0 : Int32), .int (0 : Int32)]) (k' := 0) (n' := 0) (s_goes1 hS) mw_X12_goes ko_X12 rfl w_1223 w_20 w_1221 ar_X12_goes rfl ⟨rfl, rfl, rfl, rfl, rfl⟩ dX12_leg_148 (by decide) (shk hS 33 rfl) ?_
              refine V_if_ne 156 dX12_leg_151 rfl (fun z_ => (by first | exact absurd (by decide) z_ | exact absurd z_ (by decide))) (fun _ => ?_)
              refine V_iconst (0 : Int32) dX12_leg_154 (by decide) ?_
              exact V_iret rfl dX12_leg_155 (k13 c1 c2 c5 c8 c11 c14)
            · refine V_iload dX12_leg_90 rfl ?_
              refine V_aload_n dX12_leg_92 rfl ?_
              refine V_getf (fk := 0) (Value.int (zI σ 33 0)) ko_X12 rfl w_1055 dX12_leg_93 (by decide) (shk hS 33 rfl) rfl ?_
              refine V_sipush (999 : Int32) dX12_leg_96 (by decide) ?_
              refine V_callS1 (as := [.int v4, .int (zI σ 33 0), .int (999 : Int32)]) (k' := 0) (n' := 0) (s_X12_in) mw_X12_in w_1219 w_1218 ar_X12_in rfl ⟨rfl, rfl, rfl, rfl, rfl⟩ dX12_leg_99 ?_
              refine V_if_eq 109 dX12_leg_102 rfl (fun c15 => ?_) (fun c15 => ?_)
              · replace c15 := jb_0.mp c15
                refine V_iconst (0 : Int32) dX12_leg_109 (by decide) ?_
                refine V_iload dX12_leg_110 rfl ?_
                refine V_if_eq 147 dX12_leg_112 rfl (fun _ => ?_) (fun z_ => (by first | exact absurd (by decide) z_ | exact absurd z_ (by decide)))
                refine V_iconst (0 : Int32) dX12_leg_147 (by decide) ?_
                refine V_callV1 (as := [.int (0 : Int32), .int (0 : Int32), .int (0 : Int32)]) (k' := 0) (n' := 0) (s_goes1 hS) mw_X12_goes ko_X12 rfl w_1223 w_20 w_1221 ar_X12_goes rfl ⟨rfl, rfl, rfl, rfl, rfl⟩ dX12_leg_148 (by decide) (shk hS 33 rfl) ?_
                refine V_if_ne 156 dX12_leg_151 rfl (fun z_ => (by first | exact absurd (by decide) z_ | exact absurd z_ (by decide))) (fun _ => ?_)
                refine V_iconst (0 : Int32) dX12_leg_154 (by decide) ?_
                exact V_iret rfl dX12_leg_155 (k14 c1 c2 c5 c8 c11 c14 c15)
              · replace c15 := jb_n.mp c15
                refine V_iconst (1 : Int32) dX12_leg_105 (by decide) ?_
                refine V_goto 110 dX12_leg_106 rfl ?_
                refine V_iload dX12_leg_110 rfl ?_
                refine V_if_eq 147 dX12_leg_112 rfl (fun _ => ?_) (fun z_ => (by first | exact absurd (by decide) z_ | exact absurd z_ (by decide)))
                refine V_iconst (0 : Int32) dX12_leg_147 (by decide) ?_
                refine V_callV1 (as := [.int (0 : Int32), .int (1 : Int32), .int (0 : Int32)]) (k' := 0) (n' := 0) (s_goes1 hS) mw_X12_goes ko_X12 rfl w_1223 w_20 w_1221 ar_X12_goes rfl ⟨rfl, rfl, rfl, rfl, rfl⟩ dX12_leg_148 (by decide) (shk hS 33 rfl) ?_
                refine V_if_ne 156 dX12_leg_151 rfl (fun z_ => (by first | exact absurd (by decide) z_ | exact absurd z_ (by decide))) (fun _ => ?_)
                refine V_iconst (0 : Int32) dX12_leg_154 (by decide) ?_
                exact V_iret rfl dX12_leg_155 (k15 c1 c2 c5 c8 c11 c14 c15)
  · replace c1 := jb_n.mp c1
    refine V_iload_n dX12_leg_7 rfl ?_
    refine V_callS1 (as := [.int v2]) (k' := 0) (n' := 0) (s_X12_isPlace) mw_X12_isPlace w_1216 w_1215 ar_X12_isPlace rfl ⟨rfl, rfl, rfl, rfl, rfl⟩ dX12_leg_8 ?_
    refine V_if_eq 25 dX12_leg_11 rfl (fun c16 => ?_) (fun c16 => ?_)
    · replace c16 := jb_0.mp c16
      refine V_iconst (0 : Int32) dX12_leg_25 (by decide) ?_
      refine V_istore [(0, .ref 33), (1, .int v1), (2, .int v2), (3, .int v3), (4, .int v4), (5, .int (0 : Int32))] dX12_leg_26 rfl rfl ?_
      refine V_aload_n dX12_leg_28 rfl ?_
      refine V_getf (fk := 16) (Value.int (zI σ 33 16)) ko_X12 rfl w_1071 dX12_leg_29 (by decide) (shk hS 33 rfl) rfl ?_
      refine V_if_eq 75 dX12_leg_32 rfl (fun c17 => ?_) (fun c17 => ?_)
      · refine V_iconst (1 : Int32) dX12_leg_75 (by decide) ?_
        refine V_goto 80 dX12_leg_76 rfl ?_
        refine V_istore [(0, .ref 33), (1, .int v1), (2, .int v2), (3, .int v3), (4, .int v4), (5, .int (0 : Int32)), (6, .int (1 : Int32))] dX12_leg_80 rfl rfl ?_
        refine V_aload_n dX12_leg_82 rfl ?_
        refine V_iload dX12_leg_83 rfl ?_
        refine V_iload_n dX12_leg_85 rfl ?_
        refine V_iload_n dX12_leg_86 rfl ?_
        refine V_icmp_eq 109 dX12_leg_87 rfl (fun c18 => ?_) (fun c18 => ?_)
        · refine V_iconst (0 : Int32) dX12_leg_109 (by decide) ?_
          refine V_iload dX12_leg_110 rfl ?_
          refine V_if_eq 147 dX12_leg_112 rfl (fun _ => ?_) (fun z_ => (by first | exact absurd (by decide) z_ | exact absurd z_ (by decide)))
          refine V_iconst (0 : Int32) dX12_leg_147 (by decide) ?_
          refine V_callV1 (as := [.int (0 : Int32), .int (0 : Int32), .int (0 : Int32)]) (k' := 0) (n' := 0) (s_goes1 hS) mw_X12_goes ko_X12 rfl w_1223 w_20 w_1221 ar_X12_goes rfl ⟨rfl, rfl, rfl, rfl, rfl⟩ dX12_leg_148 (by decide) (shk hS 33 rfl) ?_
          refine V_if_ne 156 dX12_leg_151 rfl (fun z_ => (by first | exact absurd (by decide) z_ | exact absurd z_ (by decide))) (fun _ => ?_)
          refine V_iconst (0 : Int32) dX12_leg_154 (by decide) ?_
          exact V_iret rfl dX12_leg_155 (k16 c1 c16 c17 c18)
        · refine V_iload dX12_leg_90 rfl ?_
          refine V_aload_n dX12_leg_92 rfl ?_
          refine V_getf (fk := 0) (Value.int (zI σ 33 0)) ko_X12 rfl w_1055 dX12_leg_93 (by decide) (shk hS 33 rfl) rfl ?_
          refine V_sipush (999 : Int32) dX12_leg_96 (by decide) ?_
          refine V_callS1 (as := [.int v4, .int (zI σ 33 0), .int (999 : Int32)]) (k' := 0) (n' := 0) (s_X12_in) mw_X12_in w_1219 w_1218 ar_X12_in rfl ⟨rfl, rfl, rfl, rfl, rfl⟩ dX12_leg_99 ?_
          refine V_if_eq 109 dX12_leg_102 rfl (fun c19 => ?_) (fun c19 => ?_)
          · replace c19 := jb_0.mp c19
            refine V_iconst (0 : Int32) dX12_leg_109 (by decide) ?_
            refine V_iload dX12_leg_110 rfl ?_
            refine V_if_eq 147 dX12_leg_112 rfl (fun _ => ?_) (fun z_ => (by first | exact absurd (by decide) z_ | exact absurd z_ (by decide)))
            refine V_iconst (0 : Int32) dX12_leg_147 (by decide) ?_
            refine V_callV1 (as := [.int (0 : Int32), .int (0 : Int32), .int (0 : Int32)]) (k' := 0) (n' := 0) (s_goes1 hS) mw_X12_goes ko_X12 rfl w_1223 w_20 w_1221 ar_X12_goes rfl ⟨rfl, rfl, rfl, rfl, rfl⟩ dX12_leg_148 (by decide) (shk hS 33 rfl) ?_
            refine V_if_ne 156 dX12_leg_151 rfl (fun z_ => (by first | exact absurd (by decide) z_ | exact absurd z_ (by decide))) (fun _ => ?_)
            refine V_iconst (0 : Int32) dX12_leg_154 (by decide) ?_
            exact V_iret rfl dX12_leg_155 (k17 c1 c16 c17 c18 c19)
          · replace c19 := jb_n.mp c19
            refine V_iconst (1 : Int32) dX12_leg_105 (by decide) ?_
            refine V_goto 110 dX12_leg_106 rfl ?_
            refine V_iload dX12_leg_110 rfl ?_
            refine V_if_eq 147 dX12_leg_112 rfl (fun _ => ?_) (fun z_ => (by first | exact absurd (by decide) z_ | exact absurd z_ (by decide)))
            refine V_iconst (0 : Int32) dX12_leg_147 (by decide) ?_
            refine V_callV1 (as := [.int (0 : Int32), .int (1 : Int32), .int (0 : Int32)]) (k' := 0) (n' := 0) (s_goes1 hS) mw_X12_goes ko_X12 rfl w_1223 w_20 w_1221 ar_X12_goes rfl ⟨rfl, rfl, rfl, rfl, rfl⟩ dX12_leg_148 (by decide) (shk hS 33 rfl) ?_
            refine V_if_ne 156 dX12_leg_151 rfl (fun z_ => (by first | exact absurd (by decide) z_ | exact absurd z_ (by decide))) (fun _ => ?_)
            refine V_iconst (0 : Int32) dX12_leg_154 (by decide) ?_
            exact V_iret rfl dX12_leg_155 (k18 c1 c16 c17 c18 c19)
      · refine V_aload_n dX12_leg_35 rfl ?_
        refine V_getf (fk := 16) (Value.int (zI σ 33 16)) ko_X12 rfl w_1071 dX12_leg_36 (by decide) (shk hS 33 rfl) rfl ?_
        refine V_bipush (8 : Int32) dX12_leg_39 (by decide) ?_
        refine V_icmp_ge 79 dX12_leg_41 rfl (fun c20 => ?_) (fun c20 => ?_)
        · refine V_iconst (0 : Int32) dX12_leg_79 (by decide) ?_
          refine V_istore [(0, .ref 33), (1, .int v1), (2, .int v2), (3, .int v3), (4, .int v4), (5, .int (0 : Int32)), (6, .int (0 : Int32))] dX12_leg_80 rfl rfl ?_
          refine V_aload_n dX12_leg_82 rfl ?_
          refine V_iload dX12_leg_83 rfl ?_
          refine V_iload_n dX12_leg_85 rfl ?_
          refine V_iload_n dX12_leg_86 rfl ?_
          refine V_icmp_eq 109 dX12_leg_87 rfl (fun c21 => ?_) (fun c21 => ?_)
          · refine V_iconst (0 : Int32) dX12_leg_109 (by decide) ?_
            refine V_iload dX12_leg_110 rfl ?_
            refine V_if_eq 147 dX12_leg_112 rfl (fun _ => ?_) (fun z_ => (by first | exact absurd (by decide) z_ | exact absurd z_ (by decide)))
            refine V_iconst (0 : Int32) dX12_leg_147 (by decide) ?_
            refine V_callV1 (as := [.int (0 : Int32), .int (0 : Int32), .int (0 : Int32)]) (k' := 0) (n' := 0) (s_goes1 hS) mw_X12_goes ko_X12 rfl w_1223 w_20 w_1221 ar_X12_goes rfl ⟨rfl, rfl, rfl, rfl, rfl⟩ dX12_leg_148 (by decide) (shk hS 33 rfl) ?_
            refine V_if_ne 156 dX12_leg_151 rfl (fun z_ => (by first | exact absurd (by decide) z_ | exact absurd z_ (by decide))) (fun _ => ?_)
            refine V_iconst (0 : Int32) dX12_leg_154 (by decide) ?_
            exact V_iret rfl dX12_leg_155 (k19 c1 c16 c17 c20 c21)
          · refine V_iload dX12_leg_90 rfl ?_
            refine V_aload_n dX12_leg_92 rfl ?_
            refine V_getf (fk := 0) (Value.int (zI σ 33 0)) ko_X12 rfl w_1055 dX12_leg_93 (by decide) (shk hS 33 rfl) rfl ?_
            refine V_sipush (999 : Int32) dX12_leg_96 (by decide) ?_
            refine V_callS1 (as := [.int v4, .int (zI σ 33 0), .int (999 : Int32)]) (k' := 0) (n' := 0) (s_X12_in) mw_X12_in w_1219 w_1218 ar_X12_in rfl ⟨rfl, rfl, rfl, rfl, rfl⟩ dX12_leg_99 ?_
            refine V_if_eq 109 dX12_leg_102 rfl (fun c22 => ?_) (fun c22 => ?_)
            · replace c22 := jb_0.mp c22
              refine V_iconst (0 : Int32) dX12_leg_109 (by decide) ?_
              refine V_iload dX12_leg_110 rfl ?_
              refine V_if_eq 147 dX12_leg_112 rfl (fun _ => ?_) (fun z_ => (by first | exact absurd (by decide) z_ | exact absurd z_ (by decide)))
              refine V_iconst (0 : Int32) dX12_leg_147 (by decide) ?_
              refine V_callV1 (as := [.int (0 : Int32), .int (0 : Int32), .int (0 : Int32)]) (k' := 0) (n' := 0) (s_goes1 hS) mw_X12_goes ko_X12 rfl w_1223 w_20 w_1221 ar_X12_goes rfl ⟨rfl, rfl, rfl, rfl, rfl⟩ dX12_leg_148 (by decide) (shk hS 33 rfl) ?_
              refine V_if_ne 156 dX12_leg_151 rfl (fun z_ => (by first | exact absurd (by decide) z_ | exact absurd z_ (by decide))) (fun _ => ?_)
              refine V_iconst (0 : Int32) dX12_leg_154 (by decide) ?_
              exact V_iret rfl dX12_leg_155 (k20 c1 c16 c17 c20 c21 c22)
            · replace c22 := jb_n.mp c22
              refine V_iconst (1 : Int32) dX12_leg_105 (by decide) ?_
              refine V_goto 110 dX12_leg_106 rfl ?_
              refine V_iload dX12_leg_110 rfl ?_
              refine V_if_eq 147 dX12_leg_112 rfl (fun _ => ?_) (fun z_ => (by first | exact absurd (by decide) z_ | exact absurd z_ (by decide)))
              refine V_iconst (0 : Int32) dX12_leg_147 (by decide) ?_
              refine V_callV1 (as := [.int (0 : Int32), .int (1 : Int32), .int (0 : Int32)]) (k' := 0) (n' := 0) (s_goes1 hS) mw_X12_goes ko_X12 rfl w_1223 w_20 w_1221 ar_X12_goes rfl ⟨rfl, rfl, rfl, rfl, rfl⟩ dX12_leg_148 (by decide) (shk hS 33 rfl) ?_
              refine V_if_ne 156 dX12_leg_151 rfl (fun z_ => (by first | exact absurd (by decide) z_ | exact absurd z_ (by decide))) (fun _ => ?_)
              refine V_iconst (0 : Int32) dX12_leg_154 (by decide) ?_
              exact V_iret rfl dX12_leg_155 (k21 c1 c16 c17 c20 c21 c22)
        · refine V_aload_n dX12_leg_44 rfl ?_
          refine V_getf (fk := 18) (Value.ref 47) ko_X12 rfl w_1073 dX12_leg_45 (by decide) (shk hS 33 rfl) (congrArg Value.ref (shr hS 33 18 47 (by decide))) ?_
          refine V_aload_n dX12_leg_48 rfl ?_
          refine V_getf (fk := 16) (Value.int (zI σ 33 16)) ko_X12 rfl w_1071 dX12_leg_49 (by decide) (shk hS 33 rfl) rfl ?_
          refine V_iconst (1 : Int32) dX12_leg_52 (by decide) ?_
          refine V_isub dX12_leg_53 ?_
          refine V_iald dX12_leg_54 (by decide) (shk hS 47 rfl) (vp_l (n := 8) (shl hS 47 rfl) (o2 c1 c16 c17 c20)) ?_
          refine V_iload_n dX12_leg_55 rfl ?_
          refine V_icmp_ne 79 dX12_leg_56 rfl (fun c23 => ?_) (fun c23 => ?_)
          · refine V_iconst (0 : Int32) dX12_leg_79 (by decide) ?_
            refine V_istore [(0, .ref 33), (1, .int v1), (2, .int v2), (3, .int v3), (4, .int v4), (5, .int (0 : Int32)), (6, .int (0 : Int32))] dX12_leg_80 rfl rfl ?_
            refine V_aload_n dX12_leg_82 rfl ?_
            refine V_iload dX12_leg_83 rfl ?_
            refine V_iload_n dX12_leg_85 rfl ?_
            refine V_iload_n dX12_leg_86 rfl ?_
            refine V_icmp_eq 109 dX12_leg_87 rfl (fun c24 => ?_) (fun c24 => ?_)
            · refine V_iconst (0 : Int32) dX12_leg_109 (by decide) ?_
              refine V_iload dX12_leg_110 rfl ?_
              refine V_if_eq 147 dX12_leg_112 rfl (fun _ => ?_) (fun z_ => (by first | exact absurd (by decide) z_ | exact absurd z_ (by decide)))
              refine V_iconst (0 : Int32) dX12_leg_147 (by decide) ?_
              refine V_callV1 (as := [.int (0 : Int32), .int (0 : Int32), .int (0 : Int32)]) (k' := 0) (n' := 0) (s_goes1 hS) mw_X12_goes ko_X12 rfl w_1223 w_20 w_1221 ar_X12_goes rfl ⟨rfl, rfl, rfl, rfl, rfl⟩ dX12_leg_148 (by decide) (shk hS 33 rfl) ?_
              refine V_if_ne 156 dX12_leg_151 rfl (fun z_ => (by first | exact absurd (by decide) z_ | exact absurd z_ (by decide))) (fun _ => ?_)
              refine V_iconst (0 : Int32) dX12_leg_154 (by decide) ?_
              exact V_iret rfl dX12_leg_155 (k22 c1 c16 c17 c20 c23 c24)
            · refine V_iload dX12_leg_90 rfl ?_
              refine V_aload_n dX12_leg_92 rfl ?_
              refine V_getf (fk := 0) (Value.int (zI σ 33 0)) ko_X12 rfl w_1055 dX12_leg_93 (by decide) (shk hS 33 rfl) rfl ?_
              refine V_sipush (999 : Int32) dX12_leg_96 (by decide) ?_
              refine V_callS1 (as := [.int v4, .int (zI σ 33 0), .int (999 : Int32)]) (k' := 0) (n' := 0) (s_X12_in) mw_X12_in w_1219 w_1218 ar_X12_in rfl ⟨rfl, rfl, rfl, rfl, rfl⟩ dX12_leg_99 ?_
              refine V_if_eq 109 dX12_leg_102 rfl (fun c25 => ?_) (fun c25 => ?_)
              · replace c25 := jb_0.mp c25
                refine V_iconst (0 : Int32) dX12_leg_109 (by decide) ?_
                refine V_iload dX12_leg_110 rfl ?_
                refine V_if_eq 147 dX12_leg_112 rfl (fun _ => ?_) (fun z_ => (by first | exact absurd (by decide) z_ | exact absurd z_ (by decide)))
                refine V_iconst (0 : Int32) dX12_leg_147 (by decide) ?_
                refine V_callV1 (as := [.int (0 : Int32), .int (0 : Int32), .int (0 : Int32)]) (k' := 0) (n' := 0) (s_goes1 hS) mw_X12_goes ko_X12 rfl w_1223 w_20 w_1221 ar_X12_goes rfl ⟨rfl, rfl, rfl, rfl, rfl⟩ dX12_leg_148 (by decide) (shk hS 33 rfl) ?_
                refine V_if_ne 156 dX12_leg_151 rfl (fun z_ => (by first | exact absurd (by decide) z_ | exact absurd z_ (by decide))) (fun _ => ?_)
                refine V_iconst (0 : Int32) dX12_leg_154 (by decide) ?_
                exact V_iret rfl dX12_leg_155 (k23 c1 c16 c17 c20 c23 c24 c25)
              · replace c25 := jb_n.mp c25
                refine V_iconst (1 : Int32) dX12_leg_105 (by decide) ?_
                refine V_goto 110 dX12_leg_106 rfl ?_
                refine V_iload dX12_leg_110 rfl ?_
                refine V_if_eq 147 dX12_leg_112 rfl (fun _ => ?_) (fun z_ => (by first | exact absurd (by decide) z_ | exact absurd z_ (by decide)))
                refine V_iconst (0 : Int32) dX12_leg_147 (by decide) ?_
                refine V_callV1 (as := [.int (0 : Int32), .int (1 : Int32), .int (0 : Int32)]) (k' := 0) (n' := 0) (s_goes1 hS) mw_X12_goes ko_X12 rfl w_1223 w_20 w_1221 ar_X12_goes rfl ⟨rfl, rfl, rfl, rfl, rfl⟩ dX12_leg_148 (by decide) (shk hS 33 rfl) ?_
                refine V_if_ne 156 dX12_leg_151 rfl (fun z_ => (by first | exact absurd (by decide) z_ | exact absurd z_ (by decide))) (fun _ => ?_)
                refine V_iconst (0 : Int32) dX12_leg_154 (by decide) ?_
                exact V_iret rfl dX12_leg_155 (k24 c1 c16 c17 c20 c23 c24 c25)
          · refine V_aload_n dX12_leg_59 rfl ?_
            refine V_getf (fk := 20) (Value.ref 49) ko_X12 rfl w_1075 dX12_leg_60 (by decide) (shk hS 33 rfl) (congrArg Value.ref (shr hS 33 20 49 (by decide))) ?_
            refine V_aload_n dX12_leg_63 rfl ?_
            refine V_getf (fk := 16) (Value.int (zI σ 33 16)) ko_X12 rfl w_1071 dX12_leg_64 (by decide) (shk hS 33 rfl) rfl ?_
            refine V_iconst (1 : Int32) dX12_leg_67 (by decide) ?_
            refine V_isub dX12_leg_68 ?_
            refine V_iald dX12_leg_69 (by decide) (shk hS 49 rfl) (vp_l (n := 8) (shl hS 49 rfl) (o2 c1 c16 c17 c20)) ?_
            refine V_iload dX12_leg_70 rfl ?_
            refine V_icmp_gt 79 dX12_leg_72 rfl (fun c26 => ?_) (fun c26 => ?_)
            · refine V_iconst (0 : Int32) dX12_leg_79 (by decide) ?_
              refine V_istore [(0, .ref 33), (1, .int v1), (2, .int v2), (3, .int v3), (4, .int v4), (5, .int (0 : Int32)), (6, .int (0 : Int32))] dX12_leg_80 rfl rfl ?_
              refine V_aload_n dX12_leg_82 rfl ?_
              refine V_iload dX12_leg_83 rfl ?_
              refine V_iload_n dX12_leg_85 rfl ?_
              refine V_iload_n dX12_leg_86 rfl ?_
              refine V_icmp_eq 109 dX12_leg_87 rfl (fun c27 => ?_) (fun c27 => ?_)
              · refine V_iconst (0 : Int32) dX12_leg_109 (by decide) ?_
                refine V_iload dX12_leg_110 rfl ?_
                refine V_if_eq 147 dX12_leg_112 rfl (fun _ => ?_) (fun z_ => (by first | exact absurd (by decide) z_ | exact absurd z_ (by decide)))
                refine V_iconst (0 : Int32) dX12_leg_147 (by decide) ?_
                refine V_callV1 (as := [.int (0 : Int32), .int (0 : Int32), .int (0 : Int32)]) (k' := 0) (n' := 0) (s_goes1 hS) mw_X12_goes ko_X12 rfl w_1223 w_20 w_1221 ar_X12_goes rfl ⟨rfl, rfl, rfl, rfl, rfl⟩ dX12_leg_148 (by decide) (shk hS 33 rfl) ?_
                refine V_if_ne 156 dX12_leg_151 rfl (fun z_ => (by first | exact absurd (by decide) z_ | exact absurd z_ (by decide))) (fun _ => ?_)
                refine V_iconst (0 : Int32) dX12_leg_154 (by decide) ?_
                exact V_iret rfl dX12_leg_155 (k25 c1 c16 c17 c20 c23 c26 c27)
              · refine V_iload dX12_leg_90 rfl ?_
                refine V_aload_n dX12_leg_92 rfl ?_
                refine V_getf (fk := 0) (Value.int (zI σ 33 0)) ko_X12 rfl w_1055 dX12_leg_93 (by decide) (shk hS 33 rfl) rfl ?_
                refine V_sipush (999 : Int32) dX12_leg_96 (by decide) ?_
                refine V_callS1 (as := [.int v4, .int (zI σ 33 0), .int (999 : Int32)]) (k' := 0) (n' := 0) (s_X12_in) mw_X12_in w_1219 w_1218 ar_X12_in rfl ⟨rfl, rfl, rfl, rfl, rfl⟩ dX12_leg_99 ?_
                refine V_if_eq 109 dX12_leg_102 rfl (fun c28 => ?_) (fun c28 => ?_)
                · replace c28 := jb_0.mp c28
                  refine V_iconst (0 : Int32) dX12_leg_109 (by decide) ?_
                  refine V_iload dX12_leg_110 rfl ?_
                  refine V_if_eq 147 dX12_leg_112 rfl (fun _ => ?_) (fun z_ => (by first | exact absurd (by decide) z_ | exact absurd z_ (by decide)))
                  refine V_iconst (0 : Int32) dX12_leg_147 (by decide) ?_
                  refine V_callV1 (as := [.int (0 : Int32), .int (0 : Int32), .int (0 : Int32)]) (k' := 0) (n' := 0) (s_goes1 hS) mw_X12_goes ko_X12 rfl w_1223 w_20 w_1221 ar_X12_goes rfl ⟨rfl, rfl, rfl, rfl, rfl⟩ dX12_leg_148 (by decide) (shk hS 33 rfl) ?_
                  refine V_if_ne 156 dX12_leg_151 rfl (fun z_ => (by first | exact absurd (by decide) z_ | exact absurd z_ (by decide))) (fun _ => ?_)
                  refine V_iconst (0 : Int32) dX12_leg_154 (by decide) ?_
                  exact V_iret rfl dX12_leg_155 (k26 c1 c16 c17 c20 c23 c26 c27 c28)
                · replace c28 := jb_n.mp c28
                  refine V_iconst (1 : Int32) dX12_leg_105 (by decide) ?_
                  refine V_goto 110 dX12_leg_106 rfl ?_
                  refine V_iload dX12_leg_110 rfl ?_
                  refine V_if_eq 147 dX12_leg_112 rfl (fun _ => ?_) (fun z_ => (by first | exact absurd (by decide) z_ | exact absurd z_ (by decide)))
                  refine V_iconst (0 : Int32) dX12_leg_147 (by decide) ?_
                  refine V_callV1 (as := [.int (0 : Int32), .int (1 : Int32), .int (0 : Int32)]) (k' := 0) (n' := 0) (s_goes1 hS) mw_X12_goes ko_X12 rfl w_1223 w_20 w_1221 ar_X12_goes rfl ⟨rfl, rfl, rfl, rfl, rfl⟩ dX12_leg_148 (by decide) (shk hS 33 rfl) ?_
                  refine V_if_ne 156 dX12_leg_151 rfl (fun z_ => (by first | exact absurd (by decide) z_ | exact absurd z_ (by decide))) (fun _ => ?_)
                  refine V_iconst (0 : Int32) dX12_leg_154 (by decide) ?_
                  exact V_iret rfl dX12_leg_155 (k27 c1 c16 c17 c20 c23 c26 c27 c28)
            · refine V_iconst (1 : Int32) dX12_leg_75 (by decide) ?_
              refine V_goto 80 dX12_leg_76 rfl ?_
              refine V_istore [(0, .ref 33), (1, .int v1), (2, .int v2), (3, .int v3), (4, .int v4), (5, .int (0 : Int32)), (6, .int (1 : Int32))] dX12_leg_80 rfl rfl ?_
              refine V_aload_n dX12_leg_82 rfl ?_
              refine V_iload dX12_leg_83 rfl ?_
              refine V_iload_n dX12_leg_85 rfl ?_
              refine V_iload_n dX12_leg_86 rfl ?_
              refine V_icmp_eq 109 dX12_leg_87 rfl (fun c29 => ?_) (fun c29 => ?_)
              · refine V_iconst (0 : Int32) dX12_leg_109 (by decide) ?_
                refine V_iload dX12_leg_110 rfl ?_
                refine V_if_eq 147 dX12_leg_112 rfl (fun _ => ?_) (fun z_ => (by first | exact absurd (by decide) z_ | exact absurd z_ (by decide)))
                refine V_iconst (0 : Int32) dX12_leg_147 (by decide) ?_
                refine V_callV1 (as := [.int (0 : Int32), .int (0 : Int32), .int (0 : Int32)]) (k' := 0) (n' := 0) (s_goes1 hS) mw_X12_goes ko_X12 rfl w_1223 w_20 w_1221 ar_X12_goes rfl ⟨rfl, rfl, rfl, rfl, rfl⟩ dX12_leg_148 (by decide) (shk hS 33 rfl) ?_
                refine V_if_ne 156 dX12_leg_151 rfl (fun z_ => (by first | exact absurd (by decide) z_ | exact absurd z_ (by decide))) (fun _ => ?_)
                refine V_iconst (0 : Int32) dX12_leg_154 (by decide) ?_
                exact V_iret rfl dX12_leg_155 (k28 c1 c16 c17 c20 c23 c26 c29)
              · refine V_iload dX12_leg_90 rfl ?_
                refine V_aload_n dX12_leg_92 rfl ?_
                refine V_getf (fk := 0) (Value.int (zI σ 33 0)) ko_X12 rfl w_1055 dX12_leg_93 (by decide) (shk hS 33 rfl) rfl ?_
                refine V_sipush (999 : Int32) dX12_leg_96 (by decide) ?_
                refine V_callS1 (as := [.int v4, .int (zI σ 33 0), .int (999 : Int32)]) (k' := 0) (n' := 0) (s_X12_in) mw_X12_in w_1219 w_1218 ar_X12_in rfl ⟨rfl, rfl, rfl, rfl, rfl⟩ dX12_leg_99 ?_
                refine V_if_eq 109 dX12_leg_102 rfl (fun c30 => ?_) (fun c30 => ?_)
                · replace c30 := jb_0.mp c30
                  refine V_iconst (0 : Int32) dX12_leg_109 (by decide) ?_
                  refine V_iload dX12_leg_110 rfl ?_
                  refine V_if_eq 147 dX12_leg_112 rfl (fun _ => ?_) (fun z_ => (by first | exact absurd (by decide) z_ | exact absurd z_ (by decide)))
                  refine V_iconst (0 : Int32) dX12_leg_147 (by decide) ?_
                  refine V_callV1 (as := [.int (0 : Int32), .int (0 : Int32), .int (0 : Int32)]) (k' := 0) (n' := 0) (s_goes1 hS) mw_X12_goes ko_X12 rfl w_1223 w_20 w_1221 ar_X12_goes rfl ⟨rfl, rfl, rfl, rfl, rfl⟩ dX12_leg_148 (by decide) (shk hS 33 rfl) ?_
                  refine V_if_ne 156 dX12_leg_151 rfl (fun z_ => (by first | exact absurd (by decide) z_ | exact absurd z_ (by decide))) (fun _ => ?_)
                  refine V_iconst (0 : Int32) dX12_leg_154 (by decide) ?_
                  exact V_iret rfl dX12_leg_155 (k29 c1 c16 c17 c20 c23 c26 c29 c30)
                · replace c30 := jb_n.mp c30
                  refine V_iconst (1 : Int32) dX12_leg_105 (by decide) ?_
                  refine V_goto 110 dX12_leg_106 rfl ?_
                  refine V_iload dX12_leg_110 rfl ?_
                  refine V_if_eq 147 dX12_leg_112 rfl (fun _ => ?_) (fun z_ => (by first | exact absurd (by decide) z_ | exact absurd z_ (by decide)))
                  refine V_iconst (0 : Int32) dX12_leg_147 (by decide) ?_
                  refine V_callV1 (as := [.int (0 : Int32), .int (1 : Int32), .int (0 : Int32)]) (k' := 0) (n' := 0) (s_goes1 hS) mw_X12_goes ko_X12 rfl w_1223 w_20 w_1221 ar_X12_goes rfl ⟨rfl, rfl, rfl, rfl, rfl⟩ dX12_leg_148 (by decide) (shk hS 33 rfl) ?_
                  refine V_if_ne 156 dX12_leg_151 rfl (fun z_ => (by first | exact absurd (by decide) z_ | exact absurd z_ (by decide))) (fun _ => ?_)
                  refine V_iconst (0 : Int32) dX12_leg_154 (by decide) ?_
                  exact V_iret rfl dX12_leg_155 (k30 c1 c16 c17 c20 c23 c26 c29 c30)
    · replace c16 := jb_n.mp c16
      refine V_iload_n dX12_leg_14 rfl ?_
      refine V_callS1 (as := [.int v3]) (k' := 0) (n' := 0) (s_X12_isCarrier) mw_X12_isCarrier w_1251 w_1250 ar_X12_isCarrier rfl ⟨rfl, rfl, rfl, rfl, rfl⟩ dX12_leg_15 ?_
      refine V_if_eq 25 dX12_leg_18 rfl (fun c31 => ?_) (fun c31 => ?_)
      · replace c31 := jb_0.mp c31
        refine V_iconst (0 : Int32) dX12_leg_25 (by decide) ?_
        refine V_istore [(0, .ref 33), (1, .int v1), (2, .int v2), (3, .int v3), (4, .int v4), (5, .int (0 : Int32))] dX12_leg_26 rfl rfl ?_
        refine V_aload_n dX12_leg_28 rfl ?_
        refine V_getf (fk := 16) (Value.int (zI σ 33 16)) ko_X12 rfl w_1071 dX12_leg_29 (by decide) (shk hS 33 rfl) rfl ?_
        refine V_if_eq 75 dX12_leg_32 rfl (fun c32 => ?_) (fun c32 => ?_)
        · refine V_iconst (1 : Int32) dX12_leg_75 (by decide) ?_
          refine V_goto 80 dX12_leg_76 rfl ?_
          refine V_istore [(0, .ref 33), (1, .int v1), (2, .int v2), (3, .int v3), (4, .int v4), (5, .int (0 : Int32)), (6, .int (1 : Int32))] dX12_leg_80 rfl rfl ?_
          refine V_aload_n dX12_leg_82 rfl ?_
          refine V_iload dX12_leg_83 rfl ?_
          refine V_iload_n dX12_leg_85 rfl ?_
          refine V_iload_n dX12_leg_86 rfl ?_
          refine V_icmp_eq 109 dX12_leg_87 rfl (fun c33 => ?_) (fun c33 => ?_)
          · refine V_iconst (0 : Int32) dX12_leg_109 (by decide) ?_
            refine V_iload dX12_leg_110 rfl ?_
            refine V_if_eq 147 dX12_leg_112 rfl (fun _ => ?_) (fun z_ => (by first | exact absurd (by decide) z_ | exact absurd z_ (by decide)))
            refine V_iconst (0 : Int32) dX12_leg_147 (by decide) ?_
            refine V_callV1 (as := [.int (0 : Int32), .int (0 : Int32), .int (0 : Int32)]) (k' := 0) (n' := 0) (s_goes1 hS) mw_X12_goes ko_X12 rfl w_1223 w_20 w_1221 ar_X12_goes rfl ⟨rfl, rfl, rfl, rfl, rfl⟩ dX12_leg_148 (by decide) (shk hS 33 rfl) ?_
            refine V_if_ne 156 dX12_leg_151 rfl (fun z_ => (by first | exact absurd (by decide) z_ | exact absurd z_ (by decide))) (fun _ => ?_)
            refine V_iconst (0 : Int32) dX12_leg_154 (by decide) ?_
            exact V_iret rfl dX12_leg_155 (k31 c1 c16 c31 c32 c33)
          · refine V_iload dX12_leg_90 rfl ?_
            refine V_aload_n dX12_leg_92 rfl ?_
            refine V_getf (fk := 0) (Value.int (zI σ 33 0)) ko_X12 rfl w_1055 dX12_leg_93 (by decide) (shk hS 33 rfl) rfl ?_
            refine V_sipush (999 : Int32) dX12_leg_96 (by decide) ?_
            refine V_callS1 (as := [.int v4, .int (zI σ 33 0), .int (999 : Int32)]) (k' := 0) (n' := 0) (s_X12_in) mw_X12_in w_1219 w_1218 ar_X12_in rfl ⟨rfl, rfl, rfl, rfl, rfl⟩ dX12_leg_99 ?_
            refine V_if_eq 109 dX12_leg_102 rfl (fun c34 => ?_) (fun c34 => ?_)
            · replace c34 := jb_0.mp c34
              refine V_iconst (0 : Int32) dX12_leg_109 (by decide) ?_
              refine V_iload dX12_leg_110 rfl ?_
              refine V_if_eq 147 dX12_leg_112 rfl (fun _ => ?_) (fun z_ => (by first | exact absurd (by decide) z_ | exact absurd z_ (by decide)))
              refine V_iconst (0 : Int32) dX12_leg_147 (by decide) ?_
              refine V_callV1 (as := [.int (0 : Int32), .int (0 : Int32), .int (0 : Int32)]) (k' := 0) (n' := 0) (s_goes1 hS) mw_X12_goes ko_X12 rfl w_1223 w_20 w_1221 ar_X12_goes rfl ⟨rfl, rfl, rfl, rfl, rfl⟩ dX12_leg_148 (by decide) (shk hS 33 rfl) ?_
              refine V_if_ne 156 dX12_leg_151 rfl (fun z_ => (by first | exact absurd (by decide) z_ | exact absurd z_ (by decide))) (fun _ => ?_)
              refine V_iconst (0 : Int32) dX12_leg_154 (by decide) ?_
              exact V_iret rfl dX12_leg_155 (k32 c1 c16 c31 c32 c33 c34)
            · replace c34 := jb_n.mp c34
              refine V_iconst (1 : Int32) dX12_leg_105 (by decide) ?_
              refine V_goto 110 dX12_leg_106 rfl ?_
              refine V_iload dX12_leg_110 rfl ?_
              refine V_if_eq 147 dX12_leg_112 rfl (fun _ => ?_) (fun z_ => (by first | exact absurd (by decide) z_ | exact absurd z_ (by decide)))
              refine V_iconst (0 : Int32) dX12_leg_147 (by decide) ?_
              refine V_callV1 (as := [.int (0 : Int32), .int (1 : Int32), .int (0 : Int32)]) (k' := 0) (n' := 0) (s_goes1 hS) mw_X12_goes ko_X12 rfl w_1223 w_20 w_1221 ar_X12_goes rfl ⟨rfl, rfl, rfl, rfl, rfl⟩ dX12_leg_148 (by decide) (shk hS 33 rfl) ?_
              refine V_if_ne 156 dX12_leg_151 rfl (fun z_ => (by first | exact absurd (by decide) z_ | exact absurd z_ (by decide))) (fun _ => ?_)
              refine V_iconst (0 : Int32) dX12_leg_154 (by decide) ?_
              exact V_iret rfl dX12_leg_155 (k33 c1 c16 c31 c32 c33 c34)
        · refine V_aload_n dX12_leg_35 rfl ?_
          refine V_getf (fk := 16) (Value.int (zI σ 33 16)) ko_X12 rfl w_1071 dX12_leg_36 (by decide) (shk hS 33 rfl) rfl ?_
          refine V_bipush (8 : Int32) dX12_leg_39 (by decide) ?_
          refine V_icmp_ge 79 dX12_leg_41 rfl (fun c35 => ?_) (fun c35 => ?_)
          · refine V_iconst (0 : Int32) dX12_leg_79 (by decide) ?_
            refine V_istore [(0, .ref 33), (1, .int v1), (2, .int v2), (3, .int v3), (4, .int v4), (5, .int (0 : Int32)), (6, .int (0 : Int32))] dX12_leg_80 rfl rfl ?_
            refine V_aload_n dX12_leg_82 rfl ?_
            refine V_iload dX12_leg_83 rfl ?_
            refine V_iload_n dX12_leg_85 rfl ?_
            refine V_iload_n dX12_leg_86 rfl ?_
            refine V_icmp_eq 109 dX12_leg_87 rfl (fun c36 => ?_) (fun c36 => ?_)
            · refine V_iconst (0 : Int32) dX12_leg_109 (by decide) ?_
              refine V_iload dX12_leg_110 rfl ?_
              refine V_if_eq 147 dX12_leg_112 rfl (fun _ => ?_) (fun z_ => (by first | exact absurd (by decide) z_ | exact absurd z_ (by decide)))
              refine V_iconst (0 : Int32) dX12_leg_147 (by decide) ?_
              refine V_callV1 (as := [.int (0 : Int32), .int (0 : Int32), .int (0 : Int32)]) (k' := 0) (n' := 0) (s_goes1 hS) mw_X12_goes ko_X12 rfl w_1223 w_20 w_1221 ar_X12_goes rfl ⟨rfl, rfl, rfl, rfl, rfl⟩ dX12_leg_148 (by decide) (shk hS 33 rfl) ?_
              refine V_if_ne 156 dX12_leg_151 rfl (fun z_ => (by first | exact absurd (by decide) z_ | exact absurd z_ (by decide))) (fun _ => ?_)
              refine V_iconst (0 : Int32) dX12_leg_154 (by decide) ?_
              exact V_iret rfl dX12_leg_155 (k34 c1 c16 c31 c32 c35 c36)
            · refine V_iload dX12_leg_90 rfl ?_
              refine V_aload_n dX12_leg_92 rfl ?_
              refine V_getf (fk := 0) (Value.int (zI σ 33 0)) ko_X12 rfl w_1055 dX12_leg_93 (by decide) (shk hS 33 rfl) rfl ?_
              refine V_sipush (999 : Int32) dX12_leg_96 (by decide) ?_
              refine V_callS1 (as := [.int v4, .int (zI σ 33 0), .int (999 : Int32)]) (k' := 0) (n' := 0) (s_X12_in) mw_X12_in w_1219 w_1218 ar_X12_in rfl ⟨rfl, rfl, rfl, rfl, rfl⟩ dX12_leg_99 ?_
              refine V_if_eq 109 dX12_leg_102 rfl (fun c37 => ?_) (fun c37 => ?_)
              · replace c37 := jb_0.mp c37
                refine V_iconst (0 : Int32) dX12_leg_109 (by decide) ?_
                refine V_iload dX12_leg_110 rfl ?_
                refine V_if_eq 147 dX12_leg_112 rfl (fun _ => ?_) (fun z_ => (by first | exact absurd (by decide) z_ | exact absurd z_ (by decide)))
                refine V_iconst (0 : Int32) dX12_leg_147 (by decide) ?_
                refine V_callV1 (as := [.int (0 : Int32), .int (0 : Int32), .int (0 : Int32)]) (k' := 0) (n' := 0) (s_goes1 hS) mw_X12_goes ko_X12 rfl w_1223 w_20 w_1221 ar_X12_goes rfl ⟨rfl, rfl, rfl, rfl, rfl⟩ dX12_leg_148 (by decide) (shk hS 33 rfl) ?_
                refine V_if_ne 156 dX12_leg_151 rfl (fun z_ => (by first | exact absurd (by decide) z_ | exact absurd z_ (by decide))) (fun _ => ?_)
                refine V_iconst (0 : Int32) dX12_leg_154 (by decide) ?_
                exact V_iret rfl dX12_leg_155 (k35 c1 c16 c31 c32 c35 c36 c37)
              · replace c37 := jb_n.mp c37
                refine V_iconst (1 : Int32) dX12_leg_105 (by decide) ?_
                refine V_goto 110 dX12_leg_106 rfl ?_
                refine V_iload dX12_leg_110 rfl ?_
                refine V_if_eq 147 dX12_leg_112 rfl (fun _ => ?_) (fun z_ => (by first | exact absurd (by decide) z_ | exact absurd z_ (by decide)))
                refine V_iconst (0 : Int32) dX12_leg_147 (by decide) ?_
                refine V_callV1 (as := [.int (0 : Int32), .int (1 : Int32), .int (0 : Int32)]) (k' := 0) (n' := 0) (s_goes1 hS) mw_X12_goes ko_X12 rfl w_1223 w_20 w_1221 ar_X12_goes rfl ⟨rfl, rfl, rfl, rfl, rfl⟩ dX12_leg_148 (by decide) (shk hS 33 rfl) ?_
                refine V_if_ne 156 dX12_leg_151 rfl (fun z_ => (by first | exact absurd (by decide) z_ | exact absurd z_ (by decide))) (fun _ => ?_)
                refine V_iconst (0 : Int32) dX12_leg_154 (by decide) ?_
                exact V_iret rfl dX12_leg_155 (k36 c1 c16 c31 c32 c35 c36 c37)
          · refine V_aload_n dX12_leg_44 rfl ?_
            refine V_getf (fk := 18) (Value.ref 47) ko_X12 rfl w_1073 dX12_leg_45 (by decide) (shk hS 33 rfl) (congrArg Value.ref (shr hS 33 18 47 (by decide))) ?_
            refine V_aload_n dX12_leg_48 rfl ?_
            refine V_getf (fk := 16) (Value.int (zI σ 33 16)) ko_X12 rfl w_1071 dX12_leg_49 (by decide) (shk hS 33 rfl) rfl ?_
            refine V_iconst (1 : Int32) dX12_leg_52 (by decide) ?_
            refine V_isub dX12_leg_53 ?_
            refine V_iald dX12_leg_54 (by decide) (shk hS 47 rfl) (vp_l (n := 8) (shl hS 47 rfl) (o3 c1 c16 c31 c32 c35)) ?_
            refine V_iload_n dX12_leg_55 rfl ?_
            refine V_icmp_ne 79 dX12_leg_56 rfl (fun c38 => ?_) (fun c38 => ?_)
            · refine V_iconst (0 : Int32) dX12_leg_79 (by decide) ?_
              refine V_istore [(0, .ref 33), (1, .int v1), (2, .int v2), (3, .int v3), (4, .int v4), (5, .int (0 : Int32)), (6, .int (0 : Int32))] dX12_leg_80 rfl rfl ?_
              refine V_aload_n dX12_leg_82 rfl ?_
              refine V_iload dX12_leg_83 rfl ?_
              refine V_iload_n dX12_leg_85 rfl ?_
              refine V_iload_n dX12_leg_86 rfl ?_
              refine V_icmp_eq 109 dX12_leg_87 rfl (fun c39 => ?_) (fun c39 => ?_)
              · refine V_iconst (0 : Int32) dX12_leg_109 (by decide) ?_
                refine V_iload dX12_leg_110 rfl ?_
                refine V_if_eq 147 dX12_leg_112 rfl (fun _ => ?_) (fun z_ => (by first | exact absurd (by decide) z_ | exact absurd z_ (by decide)))
                refine V_iconst (0 : Int32) dX12_leg_147 (by decide) ?_
                refine V_callV1 (as := [.int (0 : Int32), .int (0 : Int32), .int (0 : Int32)]) (k' := 0) (n' := 0) (s_goes1 hS) mw_X12_goes ko_X12 rfl w_1223 w_20 w_1221 ar_X12_goes rfl ⟨rfl, rfl, rfl, rfl, rfl⟩ dX12_leg_148 (by decide) (shk hS 33 rfl) ?_
                refine V_if_ne 156 dX12_leg_151 rfl (fun z_ => (by first | exact absurd (by decide) z_ | exact absurd z_ (by decide))) (fun _ => ?_)
                refine V_iconst (0 : Int32) dX12_leg_154 (by decide) ?_
                exact V_iret rfl dX12_leg_155 (k37 c1 c16 c31 c32 c35 c38 c39)
              · refine V_iload dX12_leg_90 rfl ?_
                refine V_aload_n dX12_leg_92 rfl ?_
                refine V_getf (fk := 0) (Value.int (zI σ 33 0)) ko_X12 rfl w_1055 dX12_leg_93 (by decide) (shk hS 33 rfl) rfl ?_
                refine V_sipush (999 : Int32) dX12_leg_96 (by decide) ?_
                refine V_callS1 (as := [.int v4, .int (zI σ 33 0), .int (999 : Int32)]) (k' := 0) (n' := 0) (s_X12_in) mw_X12_in w_1219 w_1218 ar_X12_in rfl ⟨rfl, rfl, rfl, rfl, rfl⟩ dX12_leg_99 ?_
                refine V_if_eq 109 dX12_leg_102 rfl (fun c40 => ?_) (fun c40 => ?_)
                · replace c40 := jb_0.mp c40
                  refine V_iconst (0 : Int32) dX12_leg_109 (by decide) ?_
                  refine V_iload dX12_leg_110 rfl ?_
                  refine V_if_eq 147 dX12_leg_112 rfl (fun _ => ?_) (fun z_ => (by first | exact absurd (by decide) z_ | exact absurd z_ (by decide)))
                  refine V_iconst (0 : Int32) dX12_leg_147 (by decide) ?_
                  refine V_callV1 (as := [.int (0 : Int32), .int (0 : Int32), .int (0 : Int32)]) (k' := 0) (n' := 0) (s_goes1 hS) mw_X12_goes ko_X12 rfl w_1223 w_20 w_1221 ar_X12_goes rfl ⟨rfl, rfl, rfl, rfl, rfl⟩ dX12_leg_148 (by decide) (shk hS 33 rfl) ?_
                  refine V_if_ne 156 dX12_leg_151 rfl (fun z_ => (by first | exact absurd (by decide) z_ | exact absurd z_ (by decide))) (fun _ => ?_)
                  refine V_iconst (0 : Int32) dX12_leg_154 (by decide) ?_
                  exact V_iret rfl dX12_leg_155 (k38 c1 c16 c31 c32 c35 c38 c39 c40)
                · replace c40 := jb_n.mp c40
                  refine V_iconst (1 : Int32) dX12_leg_105 (by decide) ?_
                  refine V_goto 110 dX12_leg_106 rfl ?_
                  refine V_iload dX12_leg_110 rfl ?_
                  refine V_if_eq 147 dX12_leg_112 rfl (fun _ => ?_) (fun z_ => (by first | exact absurd (by decide) z_ | exact absurd z_ (by decide)))
                  refine V_iconst (0 : Int32) dX12_leg_147 (by decide) ?_
                  refine V_callV1 (as := [.int (0 : Int32), .int (1 : Int32), .int (0 : Int32)]) (k' := 0) (n' := 0) (s_goes1 hS) mw_X12_goes ko_X12 rfl w_1223 w_20 w_1221 ar_X12_goes rfl ⟨rfl, rfl, rfl, rfl, rfl⟩ dX12_leg_148 (by decide) (shk hS 33 rfl) ?_
                  refine V_if_ne 156 dX12_leg_151 rfl (fun z_ => (by first | exact absurd (by decide) z_ | exact absurd z_ (by decide))) (fun _ => ?_)
                  refine V_iconst (0 : Int32) dX12_leg_154 (by decide) ?_
                  exact V_iret rfl dX12_leg_155 (k39 c1 c16 c31 c32 c35 c38 c39 c40)
            · refine V_aload_n dX12_leg_59 rfl ?_
              refine V_getf (fk := 20) (Value.ref 49) ko_X12 rfl w_1075 dX12_leg_60 (by decide) (shk hS 33 rfl) (congrArg Value.ref (shr hS 33 20 49 (by decide))) ?_
              refine V_aload_n dX12_leg_63 rfl ?_
              refine V_getf (fk := 16) (Value.int (zI σ 33 16)) ko_X12 rfl w_1071 dX12_leg_64 (by decide) (shk hS 33 rfl) rfl ?_
              refine V_iconst (1 : Int32) dX12_leg_67 (by decide) ?_
              refine V_isub dX12_leg_68 ?_
              refine V_iald dX12_leg_69 (by decide) (shk hS 49 rfl) (vp_l (n := 8) (shl hS 49 rfl) (o3 c1 c16 c31 c32 c35)) ?_
              refine V_iload dX12_leg_70 rfl ?_
              refine V_icmp_gt 79 dX12_leg_72 rfl (fun c41 => ?_) (fun c41 => ?_)
              · refine V_iconst (0 : Int32) dX12_leg_79 (by decide) ?_
                refine V_istore [(0, .ref 33), (1, .int v1), (2, .int v2), (3, .int v3), (4, .int v4), (5, .int (0 : Int32)), (6, .int (0 : Int32))] dX12_leg_80 rfl rfl ?_
                refine V_aload_n dX12_leg_82 rfl ?_
                refine V_iload dX12_leg_83 rfl ?_
                refine V_iload_n dX12_leg_85 rfl ?_
                refine V_iload_n dX12_leg_86 rfl ?_
                refine V_icmp_eq 109 dX12_leg_87 rfl (fun c42 => ?_) (fun c42 => ?_)
                · refine V_iconst (0 : Int32) dX12_leg_109 (by decide) ?_
                  refine V_iload dX12_leg_110 rfl ?_
                  refine V_if_eq 147 dX12_leg_112 rfl (fun _ => ?_) (fun z_ => (by first | exact absurd (by decide) z_ | exact absurd z_ (by decide)))
                  refine V_iconst (0 : Int32) dX12_leg_147 (by decide) ?_
                  refine V_callV1 (as := [.int (0 : Int32), .int (0 : Int32), .int (0 : Int32)]) (k' := 0) (n' := 0) (s_goes1 hS) mw_X12_goes ko_X12 rfl w_1223 w_20 w_1221 ar_X12_goes rfl ⟨rfl, rfl, rfl, rfl, rfl⟩ dX12_leg_148 (by decide) (shk hS 33 rfl) ?_
                  refine V_if_ne 156 dX12_leg_151 rfl (fun z_ => (by first | exact absurd (by decide) z_ | exact absurd z_ (by decide))) (fun _ => ?_)
                  refine V_iconst (0 : Int32) dX12_leg_154 (by decide) ?_
                  exact V_iret rfl dX12_leg_155 (k40 c1 c16 c31 c32 c35 c38 c41 c42)
                · refine V_iload dX12_leg_90 rfl ?_
                  refine V_aload_n dX12_leg_92 rfl ?_
                  refine V_getf (fk := 0) (Value.int (zI σ 33 0)) ko_X12 rfl w_1055 dX12_leg_93 (by decide) (shk hS 33 rfl) rfl ?_
                  refine V_sipush (999 : Int32) dX12_leg_96 (by decide) ?_
                  refine V_callS1 (as := [.int v4, .int (zI σ 33 0), .int (999 : Int32)]) (k' := 0) (n' := 0) (s_X12_in) mw_X12_in w_1219 w_1218 ar_X12_in rfl ⟨rfl, rfl, rfl, rfl, rfl⟩ dX12_leg_99 ?_
                  refine V_if_eq 109 dX12_leg_102 rfl (fun c43 => ?_) (fun c43 => ?_)
                  · replace c43 := jb_0.mp c43
                    refine V_iconst (0 : Int32) dX12_leg_109 (by decide) ?_
                    refine V_iload dX12_leg_110 rfl ?_
                    refine V_if_eq 147 dX12_leg_112 rfl (fun _ => ?_) (fun z_ => (by first | exact absurd (by decide) z_ | exact absurd z_ (by decide)))
                    refine V_iconst (0 : Int32) dX12_leg_147 (by decide) ?_
                    refine V_callV1 (as := [.int (0 : Int32), .int (0 : Int32), .int (0 : Int32)]) (k' := 0) (n' := 0) (s_goes1 hS) mw_X12_goes ko_X12 rfl w_1223 w_20 w_1221 ar_X12_goes rfl ⟨rfl, rfl, rfl, rfl, rfl⟩ dX12_leg_148 (by decide) (shk hS 33 rfl) ?_
                    refine V_if_ne 156 dX12_leg_151 rfl (fun z_ => (by first | exact absurd (by decide) z_ | exact absurd z_ (by decide))) (fun _ => ?_)
                    refine V_iconst (0 : Int32) dX12_leg_154 (by decide) ?_
                    exact V_iret rfl dX12_leg_155 (k41 c1 c16 c31 c32 c35 c38 c41 c42 c43)
                  · replace c43 := jb_n.mp c43
                    refine V_iconst (1 : Int32) dX12_leg_105 (by decide) ?_
                    refine V_goto 110 dX12_leg_106 rfl ?_
                    refine V_iload dX12_leg_110 rfl ?_
                    refine V_if_eq 147 dX12_leg_112 rfl (fun _ => ?_) (fun z_ => (by first | exact absurd (by decide) z_ | exact absurd z_ (by decide)))
                    refine V_iconst (0 : Int32) dX12_leg_147 (by decide) ?_
                    refine V_callV1 (as := [.int (0 : Int32), .int (1 : Int32), .int (0 : Int32)]) (k' := 0) (n' := 0) (s_goes1 hS) mw_X12_goes ko_X12 rfl w_1223 w_20 w_1221 ar_X12_goes rfl ⟨rfl, rfl, rfl, rfl, rfl⟩ dX12_leg_148 (by decide) (shk hS 33 rfl) ?_
                    refine V_if_ne 156 dX12_leg_151 rfl (fun z_ => (by first | exact absurd (by decide) z_ | exact absurd z_ (by decide))) (fun _ => ?_)
                    refine V_iconst (0 : Int32) dX12_leg_154 (by decide) ?_
                    exact V_iret rfl dX12_leg_155 (k42 c1 c16 c31 c32 c35 c38 c41 c42 c43)
              · refine V_iconst (1 : Int32) dX12_leg_75 (by decide) ?_
                refine V_goto 80 dX12_leg_76 rfl ?_
                refine V_istore [(0, .ref 33), (1, .int v1), (2, .int v2), (3, .int v3), (4, .int v4), (5, .int (0 : Int32)), (6, .int (1 : Int32))] dX12_leg_80 rfl rfl ?_
                refine V_aload_n dX12_leg_82 rfl ?_
                refine V_iload dX12_leg_83 rfl ?_
                refine V_iload_n dX12_leg_85 rfl ?_
                refine V_iload_n dX12_leg_86 rfl ?_
                refine V_icmp_eq 109 dX12_leg_87 rfl (fun c44 => ?_) (fun c44 => ?_)
                · refine V_iconst (0 : Int32) dX12_leg_109 (by decide) ?_
                  refine V_iload dX12_leg_110 rfl ?_
                  refine V_if_eq 147 dX12_leg_112 rfl (fun _ => ?_) (fun z_ => (by first | exact absurd (by decide) z_ | exact absurd z_ (by decide)))
                  refine V_iconst (0 : Int32) dX12_leg_147 (by decide) ?_
                  refine V_callV1 (as := [.int (0 : Int32), .int (0 : Int32), .int (0 : Int32)]) (k' := 0) (n' := 0) (s_goes1 hS) mw_X12_goes ko_X12 rfl w_1223 w_20 w_1221 ar_X12_goes rfl ⟨rfl, rfl, rfl, rfl, rfl⟩ dX12_leg_148 (by decide) (shk hS 33 rfl) ?_
                  refine V_if_ne 156 dX12_leg_151 rfl (fun z_ => (by first | exact absurd (by decide) z_ | exact absurd z_ (by decide))) (fun _ => ?_)
                  refine V_iconst (0 : Int32) dX12_leg_154 (by decide) ?_
                  exact V_iret rfl dX12_leg_155 (k43 c1 c16 c31 c32 c35 c38 c41 c44)
                · refine V_iload dX12_leg_90 rfl ?_
                  refine V_aload_n dX12_leg_92 rfl ?_
                  refine V_getf (fk := 0) (Value.int (zI σ 33 0)) ko_X12 rfl w_1055 dX12_leg_93 (by decide) (shk hS 33 rfl) rfl ?_
                  refine V_sipush (999 : Int32) dX12_leg_96 (by decide) ?_
                  refine V_callS1 (as := [.int v4, .int (zI σ 33 0), .int (999 : Int32)]) (k' := 0) (n' := 0) (s_X12_in) mw_X12_in w_1219 w_1218 ar_X12_in rfl ⟨rfl, rfl, rfl, rfl, rfl⟩ dX12_leg_99 ?_
                  refine V_if_eq 109 dX12_leg_102 rfl (fun c45 => ?_) (fun c45 => ?_)
                  · replace c45 := jb_0.mp c45
                    refine V_iconst (0 : Int32) dX12_leg_109 (by decide) ?_
                    refine V_iload dX12_leg_110 rfl ?_
                    refine V_if_eq 147 dX12_leg_112 rfl (fun _ => ?_) (fun z_ => (by first | exact absurd (by decide) z_ | exact absurd z_ (by decide)))
                    refine V_iconst (0 : Int32) dX12_leg_147 (by decide) ?_
                    refine V_callV1 (as := [.int (0 : Int32), .int (0 : Int32), .int (0 : Int32)]) (k' := 0) (n' := 0) (s_goes1 hS) mw_X12_goes ko_X12 rfl w_1223 w_20 w_1221 ar_X12_goes rfl ⟨rfl, rfl, rfl, rfl, rfl⟩ dX12_leg_148 (by decide) (shk hS 33 rfl) ?_
                    refine V_if_ne 156 dX12_leg_151 rfl (fun z_ => (by first | exact absurd (by decide) z_ | exact absurd z_ (by decide))) (fun _ => ?_)
                    refine V_iconst (0 : Int32) dX12_leg_154 (by decide) ?_
                    exact V_iret rfl dX12_leg_155 (k44 c1 c16 c31 c32 c35 c38 c41 c44 c45)
                  · replace c45 := jb_n.mp c45
                    refine V_iconst (1 : Int32) dX12_leg_105 (by decide) ?_
                    refine V_goto 110 dX12_leg_106 rfl ?_
                    refine V_iload dX12_leg_110 rfl ?_
                    refine V_if_eq 147 dX12_leg_112 rfl (fun _ => ?_) (fun z_ => (by first | exact absurd (by decide) z_ | exact absurd z_ (by decide)))
                    refine V_iconst (0 : Int32) dX12_leg_147 (by decide) ?_
                    refine V_callV1 (as := [.int (0 : Int32), .int (1 : Int32), .int (0 : Int32)]) (k' := 0) (n' := 0) (s_goes1 hS) mw_X12_goes ko_X12 rfl w_1223 w_20 w_1221 ar_X12_goes rfl ⟨rfl, rfl, rfl, rfl, rfl⟩ dX12_leg_148 (by decide) (shk hS 33 rfl) ?_
                    refine V_if_ne 156 dX12_leg_151 rfl (fun z_ => (by first | exact absurd (by decide) z_ | exact absurd z_ (by decide))) (fun _ => ?_)
                    refine V_iconst (0 : Int32) dX12_leg_154 (by decide) ?_
                    exact V_iret rfl dX12_leg_155 (k45 c1 c16 c31 c32 c35 c38 c41 c44 c45)
      · replace c31 := jb_n.mp c31
        refine V_iconst (1 : Int32) dX12_leg_21 (by decide) ?_
        refine V_goto 26 dX12_leg_22 rfl ?_
        refine V_istore [(0, .ref 33), (1, .int v1), (2, .int v2), (3, .int v3), (4, .int v4), (5, .int (1 : Int32))] dX12_leg_26 rfl rfl ?_
        refine V_aload_n dX12_leg_28 rfl ?_
        refine V_getf (fk := 16) (Value.int (zI σ 33 16)) ko_X12 rfl w_1071 dX12_leg_29 (by decide) (shk hS 33 rfl) rfl ?_
        refine V_if_eq 75 dX12_leg_32 rfl (fun c46 => ?_) (fun c46 => ?_)
        · refine V_iconst (1 : Int32) dX12_leg_75 (by decide) ?_
          refine V_goto 80 dX12_leg_76 rfl ?_
          refine V_istore [(0, .ref 33), (1, .int v1), (2, .int v2), (3, .int v3), (4, .int v4), (5, .int (1 : Int32)), (6, .int (1 : Int32))] dX12_leg_80 rfl rfl ?_
          refine V_aload_n dX12_leg_82 rfl ?_
          refine V_iload dX12_leg_83 rfl ?_
          refine V_iload_n dX12_leg_85 rfl ?_
          refine V_iload_n dX12_leg_86 rfl ?_
          refine V_icmp_eq 109 dX12_leg_87 rfl (fun c47 => ?_) (fun c47 => ?_)
          · refine V_iconst (0 : Int32) dX12_leg_109 (by decide) ?_
            refine V_iload dX12_leg_110 rfl ?_
            refine V_if_eq 147 dX12_leg_112 rfl (fun z_ => (by first | exact absurd (by decide) z_ | exact absurd z_ (by decide))) (fun _ => ?_)
            refine V_iload dX12_leg_115 rfl ?_
            refine V_if_eq 147 dX12_leg_117 rfl (fun z_ => (by first | exact absurd (by decide) z_ | exact absurd z_ (by decide))) (fun _ => ?_)
            refine V_aload_n dX12_leg_120 rfl ?_
            refine V_getf (fk := 1) (Value.ref 34) ko_X12 rfl w_1056 dX12_leg_121 (by decide) (shk hS 33 rfl) (congrArg Value.ref (shr hS 33 1 34 (by decide))) ?_
            refine V_iload dX12_leg_124 rfl ?_
            refine V_if_eq 138 dX12_leg_126 rfl (fun z_ => (by first | exact absurd (by decide) z_ | exact absurd z_ (by decide))) (fun _ => ?_)
            refine V_bipush (10 : Int32) dX12_leg_129 (by decide) ?_
            refine V_iload_n dX12_leg_131 rfl ?_
            refine V_imul dX12_leg_132 ?_
            refine V_iload_n dX12_leg_133 rfl ?_
            refine V_iadd dX12_leg_134 ?_
            refine V_goto 139 dX12_leg_135 rfl ?_
            refine V_iald dX12_leg_139 (by decide) (shk hS 34 rfl) (vp_l (n := 100) (shl hS 34 rfl) (o4 c1 c16 c31 c46 c47)) ?_
            refine V_if_le 147 dX12_leg_140 rfl (fun c48 => ?_) (fun c48 => ?_)
            · refine V_iconst (0 : Int32) dX12_leg_147 (by decide) ?_
              refine V_callV1 (as := [.int (1 : Int32), .int (0 : Int32), .int (0 : Int32)]) (k' := 0) (n' := 0) (s_goes2 hS) mw_X12_goes ko_X12 rfl w_1223 w_20 w_1221 ar_X12_goes rfl ⟨rfl, rfl, rfl, rfl, rfl⟩ dX12_leg_148 (by decide) (shk hS 33 rfl) ?_
              refine V_if_ne 156 dX12_leg_151 rfl (fun z_ => (by first | exact absurd (by decide) z_ | exact absurd z_ (by decide))) (fun _ => ?_)
              refine V_iconst (0 : Int32) dX12_leg_154 (by decide) ?_
              exact V_iret rfl dX12_leg_155 (k46 c1 c16 c31 c46 c47 c48)
            · refine V_iconst (1 : Int32) dX12_leg_143 (by decide) ?_
              refine V_goto 148 dX12_leg_144 rfl ?_
              refine V_callV1 (as := [.int (1 : Int32), .int (0 : Int32), .int (1 : Int32)]) (k' := 0) (n' := 0) (s_goes2 hS) mw_X12_goes ko_X12 rfl w_1223 w_20 w_1221 ar_X12_goes rfl ⟨rfl, rfl, rfl, rfl, rfl⟩ dX12_leg_148 (by decide) (shk hS 33 rfl) ?_
              refine V_if_ne 156 dX12_leg_151 rfl (fun z_ => (by first | exact absurd (by decide) z_ | exact absurd z_ (by decide))) (fun _ => ?_)
              refine V_iconst (0 : Int32) dX12_leg_154 (by decide) ?_
              exact V_iret rfl dX12_leg_155 (k47 c1 c16 c31 c46 c47 c48)
          · refine V_iload dX12_leg_90 rfl ?_
            refine V_aload_n dX12_leg_92 rfl ?_
            refine V_getf (fk := 0) (Value.int (zI σ 33 0)) ko_X12 rfl w_1055 dX12_leg_93 (by decide) (shk hS 33 rfl) rfl ?_
            refine V_sipush (999 : Int32) dX12_leg_96 (by decide) ?_
            refine V_callS1 (as := [.int v4, .int (zI σ 33 0), .int (999 : Int32)]) (k' := 0) (n' := 0) (s_X12_in) mw_X12_in w_1219 w_1218 ar_X12_in rfl ⟨rfl, rfl, rfl, rfl, rfl⟩ dX12_leg_99 ?_
            refine V_if_eq 109 dX12_leg_102 rfl (fun c49 => ?_) (fun c49 => ?_)
            · replace c49 := jb_0.mp c49
              refine V_iconst (0 : Int32) dX12_leg_109 (by decide) ?_
              refine V_iload dX12_leg_110 rfl ?_
              refine V_if_eq 147 dX12_leg_112 rfl (fun z_ => (by first | exact absurd (by decide) z_ | exact absurd z_ (by decide))) (fun _ => ?_)
              refine V_iload dX12_leg_115 rfl ?_
              refine V_if_eq 147 dX12_leg_117 rfl (fun z_ => (by first | exact absurd (by decide) z_ | exact absurd z_ (by decide))) (fun _ => ?_)
              refine V_aload_n dX12_leg_120 rfl ?_
              refine V_getf (fk := 1) (Value.ref 34) ko_X12 rfl w_1056 dX12_leg_121 (by decide) (shk hS 33 rfl) (congrArg Value.ref (shr hS 33 1 34 (by decide))) ?_
              refine V_iload dX12_leg_124 rfl ?_
              refine V_if_eq 138 dX12_leg_126 rfl (fun z_ => (by first | exact absurd (by decide) z_ | exact absurd z_ (by decide))) (fun _ => ?_)
              refine V_bipush (10 : Int32) dX12_leg_129 (by decide) ?_
              refine V_iload_n dX12_leg_131 rfl ?_
              refine V_imul dX12_leg_132 ?_
              refine V_iload_n dX12_leg_133 rfl ?_
              refine V_iadd dX12_leg_134 ?_
              refine V_goto 139 dX12_leg_135 rfl ?_
              refine V_iald dX12_leg_139 (by decide) (shk hS 34 rfl) (vp_l (n := 100) (shl hS 34 rfl) (o5 c1 c16 c31 c46 c47 c49)) ?_
              refine V_if_le 147 dX12_leg_140 rfl (fun c50 => ?_) (fun c50 => ?_)
              · refine V_iconst (0 : Int32) dX12_leg_147 (by decide) ?_
                refine V_callV1 (as := [.int (1 : Int32), .int (0 : Int32), .int (0 : Int32)]) (k' := 0) (n' := 0) (s_goes2 hS) mw_X12_goes ko_X12 rfl w_1223 w_20 w_1221 ar_X12_goes rfl ⟨rfl, rfl, rfl, rfl, rfl⟩ dX12_leg_148 (by decide) (shk hS 33 rfl) ?_
                refine V_if_ne 156 dX12_leg_151 rfl (fun z_ => (by first | exact absurd (by decide) z_ | exact absurd z_ (by decide))) (fun _ => ?_)
                refine V_iconst (0 : Int32) dX12_leg_154 (by decide) ?_
                exact V_iret rfl dX12_leg_155 (k48 c1 c16 c31 c46 c47 c49 c50)
              · refine V_iconst (1 : Int32) dX12_leg_143 (by decide) ?_
                refine V_goto 148 dX12_leg_144 rfl ?_
                refine V_callV1 (as := [.int (1 : Int32), .int (0 : Int32), .int (1 : Int32)]) (k' := 0) (n' := 0) (s_goes2 hS) mw_X12_goes ko_X12 rfl w_1223 w_20 w_1221 ar_X12_goes rfl ⟨rfl, rfl, rfl, rfl, rfl⟩ dX12_leg_148 (by decide) (shk hS 33 rfl) ?_
                refine V_if_ne 156 dX12_leg_151 rfl (fun z_ => (by first | exact absurd (by decide) z_ | exact absurd z_ (by decide))) (fun _ => ?_)
                refine V_iconst (0 : Int32) dX12_leg_154 (by decide) ?_
                exact V_iret rfl dX12_leg_155 (k49 c1 c16 c31 c46 c47 c49 c50)
            · replace c49 := jb_n.mp c49
              refine V_iconst (1 : Int32) dX12_leg_105 (by decide) ?_
              refine V_goto 110 dX12_leg_106 rfl ?_
              refine V_iload dX12_leg_110 rfl ?_
              refine V_if_eq 147 dX12_leg_112 rfl (fun z_ => (by first | exact absurd (by decide) z_ | exact absurd z_ (by decide))) (fun _ => ?_)
              refine V_iload dX12_leg_115 rfl ?_
              refine V_if_eq 147 dX12_leg_117 rfl (fun z_ => (by first | exact absurd (by decide) z_ | exact absurd z_ (by decide))) (fun _ => ?_)
              refine V_aload_n dX12_leg_120 rfl ?_
              refine V_getf (fk := 1) (Value.ref 34) ko_X12 rfl w_1056 dX12_leg_121 (by decide) (shk hS 33 rfl) (congrArg Value.ref (shr hS 33 1 34 (by decide))) ?_
              refine V_iload dX12_leg_124 rfl ?_
              refine V_if_eq 138 dX12_leg_126 rfl (fun z_ => (by first | exact absurd (by decide) z_ | exact absurd z_ (by decide))) (fun _ => ?_)
              refine V_bipush (10 : Int32) dX12_leg_129 (by decide) ?_
              refine V_iload_n dX12_leg_131 rfl ?_
              refine V_imul dX12_leg_132 ?_
              refine V_iload_n dX12_leg_133 rfl ?_
              refine V_iadd dX12_leg_134 ?_
              refine V_goto 139 dX12_leg_135 rfl ?_
              refine V_iald dX12_leg_139 (by decide) (shk hS 34 rfl) (vp_l (n := 100) (shl hS 34 rfl) (o6 c1 c16 c31 c46 c47 c49)) ?_
              refine V_if_le 147 dX12_leg_140 rfl (fun c51 => ?_) (fun c51 => ?_)
              · refine V_iconst (0 : Int32) dX12_leg_147 (by decide) ?_
                refine V_callV1 (as := [.int (1 : Int32), .int (1 : Int32), .int (0 : Int32)]) (k' := 0) (n' := 0) (s_goes3 hS) mw_X12_goes ko_X12 rfl w_1223 w_20 w_1221 ar_X12_goes rfl ⟨rfl, rfl, rfl, rfl, rfl⟩ dX12_leg_148 (by decide) (shk hS 33 rfl) ?_
                refine V_if_ne 156 dX12_leg_151 rfl (fun z_ => (by first | exact absurd (by decide) z_ | exact absurd z_ (by decide))) (fun _ => ?_)
                refine V_iconst (0 : Int32) dX12_leg_154 (by decide) ?_
                exact V_iret rfl dX12_leg_155 (k50 c1 c16 c31 c46 c47 c49 c51)
              · refine V_iconst (1 : Int32) dX12_leg_143 (by decide) ?_
                refine V_goto 148 dX12_leg_144 rfl ?_
                refine V_callV1 (as := [.int (1 : Int32), .int (1 : Int32), .int (1 : Int32)]) (k' := 0) (n' := 0) (s_goes0 hS) mw_X12_goes ko_X12 rfl w_1223 w_20 w_1221 ar_X12_goes rfl ⟨rfl, rfl, rfl, rfl, rfl⟩ dX12_leg_148 (by decide) (shk hS 33 rfl) ?_
                refine V_if_ne 156 dX12_leg_151 rfl (fun _ => ?_) (fun z_ => (by first | exact absurd (by decide) z_ | exact absurd z_ (by decide)))
                refine V_aload_n dX12_leg_156 rfl ?_
                refine V_getf (fk := 17) (Value.ref 46) ko_X12 rfl w_1072 dX12_leg_157 (by decide) (shk (Sh_uI hS) 33 rfl) (congrArg Value.ref (shr (Sh_uI hS) 33 17 46 (by decide))) ?_
                refine V_aload_n dX12_leg_160 rfl ?_
                refine V_getf (fk := 16) (Value.int (zI σ 33 16)) ko_X12 rfl w_1071 dX12_leg_161 (by decide) (shk (Sh_uI hS) 33 rfl) (congrArg Value.int (zI_oth _ _ _ _ _ _ (by decide))) ?_
                refine V_iload_n dX12_leg_164 rfl ?_
                refine V_iast dX12_leg_165 (by decide) (shk (Sh_uI hS) 46 rfl) (vp_l (n := 8) (shl (Sh_uI hS) 46 rfl) (o7 c1 c16 c31 c46 c47 c49 c51)) ?_
                refine V_aload_n dX12_leg_166 rfl ?_
                refine V_getf (fk := 18) (Value.ref 47) ko_X12 rfl w_1073 dX12_leg_167 (by decide) (shk (Sh_uI (Sh_uI hS)) 33 rfl) (congrArg Value.ref (shr (Sh_uI (Sh_uI hS)) 33 18 47 (by decide))) ?_
                refine V_aload_n dX12_leg_170 rfl ?_
                refine V_getf (fk := 16) (Value.int (zI σ 33 16)) ko_X12 rfl w_1071 dX12_leg_171 (by decide) (shk (Sh_uI (Sh_uI hS)) 33 rfl) (congrArg Value.int ((zI_oa _ _ _ _ _ _ (by decide)).trans (zI_oth _ _ _ _ _ _ (by decide)))) ?_
                refine V_iload_n dX12_leg_174 rfl ?_
                refine V_iast dX12_leg_175 (by decide) (shk (Sh_uI (Sh_uI hS)) 47 rfl) (vp_l (n := 8) (shl (Sh_uI (Sh_uI hS)) 47 rfl) (o7 c1 c16 c31 c46 c47 c49 c51)) ?_
                refine V_aload_n dX12_leg_176 rfl ?_
                refine V_getf (fk := 19) (Value.ref 48) ko_X12 rfl w_1074 dX12_leg_177 (by decide) (shk (Sh_uI (Sh_uI (Sh_uI hS))) 33 rfl) (congrArg Value.ref (shr (Sh_uI (Sh_uI (Sh_uI hS))) 33 19 48 (by decide))) ?_
                refine V_aload_n dX12_leg_180 rfl ?_
                refine V_getf (fk := 16) (Value.int (zI σ 33 16)) ko_X12 rfl w_1071 dX12_leg_181 (by decide) (shk (Sh_uI (Sh_uI (Sh_uI hS))) 33 rfl) (congrArg Value.int (((zI_oa _ _ _ _ _ _ (by decide)).trans (zI_oa _ _ _ _ _ _ (by decide))).trans (zI_oth _ _ _ _ _ _ (by decide)))) ?_
                refine V_iload_n dX12_leg_184 rfl ?_
                refine V_iast dX12_leg_185 (by decide) (shk (Sh_uI (Sh_uI (Sh_uI hS))) 48 rfl) (vp_l (n := 8) (shl (Sh_uI (Sh_uI (Sh_uI hS))) 48 rfl) (o7 c1 c16 c31 c46 c47 c49 c51)) ?_
                refine V_aload_n dX12_leg_186 rfl ?_
                refine V_getf (fk := 20) (Value.ref 49) ko_X12 rfl w_1075 dX12_leg_187 (by decide) (shk (Sh_uI (Sh_uI (Sh_uI (Sh_uI hS)))) 33 rfl) (congrArg Value.ref (shr (Sh_uI (Sh_uI (Sh_uI (Sh_uI hS)))) 33 20 49 (by decide))) ?_
                refine V_aload_n dX12_leg_190 rfl ?_
                refine V_getf (fk := 16) (Value.int (zI σ 33 16)) ko_X12 rfl w_1071 dX12_leg_191 (by decide) (shk (Sh_uI (Sh_uI (Sh_uI (Sh_uI hS)))) 33 rfl) (congrArg Value.int ((((zI_oa _ _ _ _ _ _ (by decide)).trans (zI_oa _ _ _ _ _ _ (by decide))).trans (zI_oa _ _ _ _ _ _ (by decide))).trans (zI_oth _ _ _ _ _ _ (by decide)))) ?_
                refine V_iload dX12_leg_194 rfl ?_
                refine V_iast dX12_leg_196 (by decide) (shk (Sh_uI (Sh_uI (Sh_uI (Sh_uI hS)))) 49 rfl) (vp_l (n := 8) (shl (Sh_uI (Sh_uI (Sh_uI (Sh_uI hS)))) 49 rfl) (o7 c1 c16 c31 c46 c47 c49 c51)) ?_
                refine V_aload_n dX12_leg_197 rfl ?_
                refine V_dup dX12_leg_198 rfl ?_
                refine V_getf (fk := 16) (Value.int (zI σ 33 16)) ko_X12 rfl w_1071 dX12_leg_199 (by decide) (shk (Sh_uI (Sh_uI (Sh_uI (Sh_uI (Sh_uI hS))))) 33 rfl) (congrArg Value.int (((((zI_oa _ _ _ _ _ _ (by decide)).trans (zI_oa _ _ _ _ _ _ (by decide))).trans (zI_oa _ _ _ _ _ _ (by decide))).trans (zI_oa _ _ _ _ _ _ (by decide))).trans (zI_oth _ _ _ _ _ _ (by decide)))) ?_
                refine V_iconst (1 : Int32) dX12_leg_202 (by decide) ?_
                refine V_iadd dX12_leg_203 ?_
                refine V_puti (fk := 16) ko_X12 rfl w_1071 (Or.inl rfl) dX12_leg_204 rfl (by decide) (shk (Sh_uI (Sh_uI (Sh_uI (Sh_uI (Sh_uI hS))))) 33 rfl) ?_
                refine V_aload_n dX12_leg_207 rfl ?_
                refine V_getf (fk := 16) (Value.int ((zI σ 33 16) + (1 : Int32))) ko_X12 rfl w_1071 dX12_leg_208 (by decide) (shk (Sh_uI (Sh_uI (Sh_uI (Sh_uI (Sh_uI (Sh_uI hS)))))) 33 rfl) (congrArg Value.int (zI_self _ _ _ _)) ?_
                exact V_iret rfl dX12_leg_211 (k51 c1 c16 c31 c46 c47 c49 c51)
        · refine V_aload_n dX12_leg_35 rfl ?_
          refine V_getf (fk := 16) (Value.int (zI σ 33 16)) ko_X12 rfl w_1071 dX12_leg_36 (by decide) (shk hS 33 rfl) rfl ?_
          refine V_bipush (8 : Int32) dX12_leg_39 (by decide) ?_
          refine V_icmp_ge 79 dX12_leg_41 rfl (fun c52 => ?_) (fun c52 => ?_)
          · refine V_iconst (0 : Int32) dX12_leg_79 (by decide) ?_
            refine V_istore [(0, .ref 33), (1, .int v1), (2, .int v2), (3, .int v3), (4, .int v4), (5, .int (1 : Int32)), (6, .int (0 : Int32))] dX12_leg_80 rfl rfl ?_
            refine V_aload_n dX12_leg_82 rfl ?_
            refine V_iload dX12_leg_83 rfl ?_
            refine V_iload_n dX12_leg_85 rfl ?_
            refine V_iload_n dX12_leg_86 rfl ?_
            refine V_icmp_eq 109 dX12_leg_87 rfl (fun c53 => ?_) (fun c53 => ?_)
            · refine V_iconst (0 : Int32) dX12_leg_109 (by decide) ?_
              refine V_iload dX12_leg_110 rfl ?_
              refine V_if_eq 147 dX12_leg_112 rfl (fun z_ => (by first | exact absurd (by decide) z_ | exact absurd z_ (by decide))) (fun _ => ?_)
              refine V_iload dX12_leg_115 rfl ?_
              refine V_if_eq 147 dX12_leg_117 rfl (fun _ => ?_) (fun z_ => (by first | exact absurd (by decide) z_ | exact absurd z_ (by decide)))
              refine V_iconst (0 : Int32) dX12_leg_147 (by decide) ?_
              refine V_callV1 (as := [.int (1 : Int32), .int (0 : Int32), .int (0 : Int32)]) (k' := 0) (n' := 0) (s_goes2 hS) mw_X12_goes ko_X12 rfl w_1223 w_20 w_1221 ar_X12_goes rfl ⟨rfl, rfl, rfl, rfl, rfl⟩ dX12_leg_148 (by decide) (shk hS 33 rfl) ?_
              refine V_if_ne 156 dX12_leg_151 rfl (fun z_ => (by first | exact absurd (by decide) z_ | exact absurd z_ (by decide))) (fun _ => ?_)
              refine V_iconst (0 : Int32) dX12_leg_154 (by decide) ?_
              exact V_iret rfl dX12_leg_155 (k52 c1 c16 c31 c46 c52 c53)
            · refine V_iload dX12_leg_90 rfl ?_
              refine V_aload_n dX12_leg_92 rfl ?_
              refine V_getf (fk := 0) (Value.int (zI σ 33 0)) ko_X12 rfl w_1055 dX12_leg_93 (by decide) (shk hS 33 rfl) rfl ?_
              refine V_sipush (999 : Int32) dX12_leg_96 (by decide) ?_
              refine V_callS1 (as := [.int v4, .int (zI σ 33 0), .int (999 : Int32)]) (k' := 0) (n' := 0) (s_X12_in) mw_X12_in w_1219 w_1218 ar_X12_in rfl ⟨rfl, rfl, rfl, rfl, rfl⟩ dX12_leg_99 ?_
              refine V_if_eq 109 dX12_leg_102 rfl (fun c54 => ?_) (fun c54 => ?_)
              · replace c54 := jb_0.mp c54
                refine V_iconst (0 : Int32) dX12_leg_109 (by decide) ?_
                refine V_iload dX12_leg_110 rfl ?_
                refine V_if_eq 147 dX12_leg_112 rfl (fun z_ => (by first | exact absurd (by decide) z_ | exact absurd z_ (by decide))) (fun _ => ?_)
                refine V_iload dX12_leg_115 rfl ?_
                refine V_if_eq 147 dX12_leg_117 rfl (fun _ => ?_) (fun z_ => (by first | exact absurd (by decide) z_ | exact absurd z_ (by decide)))
                refine V_iconst (0 : Int32) dX12_leg_147 (by decide) ?_
                refine V_callV1 (as := [.int (1 : Int32), .int (0 : Int32), .int (0 : Int32)]) (k' := 0) (n' := 0) (s_goes2 hS) mw_X12_goes ko_X12 rfl w_1223 w_20 w_1221 ar_X12_goes rfl ⟨rfl, rfl, rfl, rfl, rfl⟩ dX12_leg_148 (by decide) (shk hS 33 rfl) ?_
                refine V_if_ne 156 dX12_leg_151 rfl (fun z_ => (by first | exact absurd (by decide) z_ | exact absurd z_ (by decide))) (fun _ => ?_)
                refine V_iconst (0 : Int32) dX12_leg_154 (by decide) ?_
                exact V_iret rfl dX12_leg_155 (k53 c1 c16 c31 c46 c52 c53 c54)
              · replace c54 := jb_n.mp c54
                refine V_iconst (1 : Int32) dX12_leg_105 (by decide) ?_
                refine V_goto 110 dX12_leg_106 rfl ?_
                refine V_iload dX12_leg_110 rfl ?_
                refine V_if_eq 147 dX12_leg_112 rfl (fun z_ => (by first | exact absurd (by decide) z_ | exact absurd z_ (by decide))) (fun _ => ?_)
                refine V_iload dX12_leg_115 rfl ?_
                refine V_if_eq 147 dX12_leg_117 rfl (fun _ => ?_) (fun z_ => (by first | exact absurd (by decide) z_ | exact absurd z_ (by decide)))
                refine V_iconst (0 : Int32) dX12_leg_147 (by decide) ?_
                refine V_callV1 (as := [.int (1 : Int32), .int (1 : Int32), .int (0 : Int32)]) (k' := 0) (n' := 0) (s_goes3 hS) mw_X12_goes ko_X12 rfl w_1223 w_20 w_1221 ar_X12_goes rfl ⟨rfl, rfl, rfl, rfl, rfl⟩ dX12_leg_148 (by decide) (shk hS 33 rfl) ?_
                refine V_if_ne 156 dX12_leg_151 rfl (fun z_ => (by first | exact absurd (by decide) z_ | exact absurd z_ (by decide))) (fun _ => ?_)
                refine V_iconst (0 : Int32) dX12_leg_154 (by decide) ?_
                exact V_iret rfl dX12_leg_155 (k54 c1 c16 c31 c46 c52 c53 c54)
          · refine V_aload_n dX12_leg_44 rfl ?_
            refine V_getf (fk := 18) (Value.ref 47) ko_X12 rfl w_1073 dX12_leg_45 (by decide) (shk hS 33 rfl) (congrArg Value.ref (shr hS 33 18 47 (by decide))) ?_
            refine V_aload_n dX12_leg_48 rfl ?_
            refine V_getf (fk := 16) (Value.int (zI σ 33 16)) ko_X12 rfl w_1071 dX12_leg_49 (by decide) (shk hS 33 rfl) rfl ?_
            refine V_iconst (1 : Int32) dX12_leg_52 (by decide) ?_
            refine V_isub dX12_leg_53 ?_
            refine V_iald dX12_leg_54 (by decide) (shk hS 47 rfl) (vp_l (n := 8) (shl hS 47 rfl) (o8 c1 c16 c31 c46 c52)) ?_
            refine V_iload_n dX12_leg_55 rfl ?_
            refine V_icmp_ne 79 dX12_leg_56 rfl (fun c55 => ?_) (fun c55 => ?_)
            · refine V_iconst (0 : Int32) dX12_leg_79 (by decide) ?_
              refine V_istore [(0, .ref 33), (1, .int v1), (2, .int v2), (3, .int v3), (4, .int v4), (5, .int (1 : Int32)), (6, .int (0 : Int32))] dX12_leg_80 rfl rfl ?_
              refine V_aload_n dX12_leg_82 rfl ?_
              refine V_iload dX12_leg_83 rfl ?_
              refine V_iload_n dX12_leg_85 rfl ?_
              refine V_iload_n dX12_leg_86 rfl ?_
              refine V_icmp_eq 109 dX12_leg_87 rfl (fun c56 => ?_) (fun c56 => ?_)
              · refine V_iconst (0 : Int32) dX12_leg_109 (by decide) ?_
                refine V_iload dX12_leg_110 rfl ?_
                refine V_if_eq 147 dX12_leg_112 rfl (fun z_ => (by first | exact absurd (by decide) z_ | exact absurd z_ (by decide))) (fun _ => ?_)
                refine V_iload dX12_leg_115 rfl ?_
                refine V_if_eq 147 dX12_leg_117 rfl (fun _ => ?_) (fun z_ => (by first | exact absurd (by decide) z_ | exact absurd z_ (by decide)))
                refine V_iconst (0 : Int32) dX12_leg_147 (by decide) ?_
                refine V_callV1 (as := [.int (1 : Int32), .int (0 : Int32), .int (0 : Int32)]) (k' := 0) (n' := 0) (s_goes2 hS) mw_X12_goes ko_X12 rfl w_1223 w_20 w_1221 ar_X12_goes rfl ⟨rfl, rfl, rfl, rfl, rfl⟩ dX12_leg_148 (by decide) (shk hS 33 rfl) ?_
                refine V_if_ne 156 dX12_leg_151 rfl (fun z_ => (by first | exact absurd (by decide) z_ | exact absurd z_ (by decide))) (fun _ => ?_)
                refine V_iconst (0 : Int32) dX12_leg_154 (by decide) ?_
                exact V_iret rfl dX12_leg_155 (k55 c1 c16 c31 c46 c52 c55 c56)
              · refine V_iload dX12_leg_90 rfl ?_
                refine V_aload_n dX12_leg_92 rfl ?_
                refine V_getf (fk := 0) (Value.int (zI σ 33 0)) ko_X12 rfl w_1055 dX12_leg_93 (by decide) (shk hS 33 rfl) rfl ?_
                refine V_sipush (999 : Int32) dX12_leg_96 (by decide) ?_
                refine V_callS1 (as := [.int v4, .int (zI σ 33 0), .int (999 : Int32)]) (k' := 0) (n' := 0) (s_X12_in) mw_X12_in w_1219 w_1218 ar_X12_in rfl ⟨rfl, rfl, rfl, rfl, rfl⟩ dX12_leg_99 ?_
                refine V_if_eq 109 dX12_leg_102 rfl (fun c57 => ?_) (fun c57 => ?_)
                · replace c57 := jb_0.mp c57
                  refine V_iconst (0 : Int32) dX12_leg_109 (by decide) ?_
                  refine V_iload dX12_leg_110 rfl ?_
                  refine V_if_eq 147 dX12_leg_112 rfl (fun z_ => (by first | exact absurd (by decide) z_ | exact absurd z_ (by decide))) (fun _ => ?_)
                  refine V_iload dX12_leg_115 rfl ?_
                  refine V_if_eq 147 dX12_leg_117 rfl (fun _ => ?_) (fun z_ => (by first | exact absurd (by decide) z_ | exact absurd z_ (by decide)))
                  refine V_iconst (0 : Int32) dX12_leg_147 (by decide) ?_
                  refine V_callV1 (as := [.int (1 : Int32), .int (0 : Int32), .int (0 : Int32)]) (k' := 0) (n' := 0) (s_goes2 hS) mw_X12_goes ko_X12 rfl w_1223 w_20 w_1221 ar_X12_goes rfl ⟨rfl, rfl, rfl, rfl, rfl⟩ dX12_leg_148 (by decide) (shk hS 33 rfl) ?_
                  refine V_if_ne 156 dX12_leg_151 rfl (fun z_ => (by first | exact absurd (by decide) z_ | exact absurd z_ (by decide))) (fun _ => ?_)
                  refine V_iconst (0 : Int32) dX12_leg_154 (by decide) ?_
                  exact V_iret rfl dX12_leg_155 (k56 c1 c16 c31 c46 c52 c55 c56 c57)
                · replace c57 := jb_n.mp c57
                  refine V_iconst (1 : Int32) dX12_leg_105 (by decide) ?_
                  refine V_goto 110 dX12_leg_106 rfl ?_
                  refine V_iload dX12_leg_110 rfl ?_
                  refine V_if_eq 147 dX12_leg_112 rfl (fun z_ => (by first | exact absurd (by decide) z_ | exact absurd z_ (by decide))) (fun _ => ?_)
                  refine V_iload dX12_leg_115 rfl ?_
                  refine V_if_eq 147 dX12_leg_117 rfl (fun _ => ?_) (fun z_ => (by first | exact absurd (by decide) z_ | exact absurd z_ (by decide)))
                  refine V_iconst (0 : Int32) dX12_leg_147 (by decide) ?_
                  refine V_callV1 (as := [.int (1 : Int32), .int (1 : Int32), .int (0 : Int32)]) (k' := 0) (n' := 0) (s_goes3 hS) mw_X12_goes ko_X12 rfl w_1223 w_20 w_1221 ar_X12_goes rfl ⟨rfl, rfl, rfl, rfl, rfl⟩ dX12_leg_148 (by decide) (shk hS 33 rfl) ?_
                  refine V_if_ne 156 dX12_leg_151 rfl (fun z_ => (by first | exact absurd (by decide) z_ | exact absurd z_ (by decide))) (fun _ => ?_)
                  refine V_iconst (0 : Int32) dX12_leg_154 (by decide) ?_
                  exact V_iret rfl dX12_leg_155 (k57 c1 c16 c31 c46 c52 c55 c56 c57)
            · refine V_aload_n dX12_leg_59 rfl ?_
              refine V_getf (fk := 20) (Value.ref 49) ko_X12 rfl w_1075 dX12_leg_60 (by decide) (shk hS 33 rfl) (congrArg Value.ref (shr hS 33 20 49 (by decide))) ?_
              refine V_aload_n dX12_leg_63 rfl ?_
              refine V_getf (fk := 16) (Value.int (zI σ 33 16)) ko_X12 rfl w_1071 dX12_leg_64 (by decide) (shk hS 33 rfl) rfl ?_
              refine V_iconst (1 : Int32) dX12_leg_67 (by decide) ?_
              refine V_isub dX12_leg_68 ?_
              refine V_iald dX12_leg_69 (by decide) (shk hS 49 rfl) (vp_l (n := 8) (shl hS 49 rfl) (o8 c1 c16 c31 c46 c52)) ?_
              refine V_iload dX12_leg_70 rfl ?_
              refine V_icmp_gt 79 dX12_leg_72 rfl (fun c58 => ?_) (fun c58 => ?_)
              · refine V_iconst (0 : Int32) dX12_leg_79 (by decide) ?_
                refine V_istore [(0, .ref 33), (1, .int v1), (2, .int v2), (3, .int v3), (4, .int v4), (5, .int (1 : Int32)), (6, .int (0 : Int32))] dX12_leg_80 rfl rfl ?_
                refine V_aload_n dX12_leg_82 rfl ?_
                refine V_iload dX12_leg_83 rfl ?_
                refine V_iload_n dX12_leg_85 rfl ?_
                refine V_iload_n dX12_leg_86 rfl ?_
                refine V_icmp_eq 109 dX12_leg_87 rfl (fun c59 => ?_) (fun c59 => ?_)
                · refine V_iconst (0 : Int32) dX12_leg_109 (by decide) ?_
                  refine V_iload dX12_leg_110 rfl ?_
                  refine V_if_eq 147 dX12_leg_112 rfl (fun z_ => (by first | exact absurd (by decide) z_ | exact absurd z_ (by decide))) (fun _ => ?_)
                  refine V_iload dX12_leg_115 rfl ?_
                  refine V_if_eq 147 dX12_leg_117 rfl (fun _ => ?_) (fun z_ => (by first | exact absurd (by decide) z_ | exact absurd z_ (by decide)))
                  refine V_iconst (0 : Int32) dX12_leg_147 (by decide) ?_
                  refine V_callV1 (as := [.int (1 : Int32), .int (0 : Int32), .int (0 : Int32)]) (k' := 0) (n' := 0) (s_goes2 hS) mw_X12_goes ko_X12 rfl w_1223 w_20 w_1221 ar_X12_goes rfl ⟨rfl, rfl, rfl, rfl, rfl⟩ dX12_leg_148 (by decide) (shk hS 33 rfl) ?_
                  refine V_if_ne 156 dX12_leg_151 rfl (fun z_ => (by first | exact absurd (by decide) z_ | exact absurd z_ (by decide))) (fun _ => ?_)
                  refine V_iconst (0 : Int32) dX12_leg_154 (by decide) ?_
                  exact V_iret rfl dX12_leg_155 (k58 c1 c16 c31 c46 c52 c55 c58 c59)
                · refine V_iload dX12_leg_90 rfl ?_
                  refine V_aload_n dX12_leg_92 rfl ?_
                  refine V_getf (fk := 0) (Value.int (zI σ 33 0)) ko_X12 rfl w_1055 dX12_leg_93 (by decide) (shk hS 33 rfl) rfl ?_
                  refine V_sipush (999 : Int32) dX12_leg_96 (by decide) ?_
                  refine V_callS1 (as := [.int v4, .int (zI σ 33 0), .int (999 : Int32)]) (k' := 0) (n' := 0) (s_X12_in) mw_X12_in w_1219 w_1218 ar_X12_in rfl ⟨rfl, rfl, rfl, rfl, rfl⟩ dX12_leg_99 ?_
                  refine V_if_eq 109 dX12_leg_102 rfl (fun c60 => ?_) (fun c60 => ?_)
                  · replace c60 := jb_0.mp c60
                    refine V_iconst (0 : Int32) dX12_leg_109 (by decide) ?_
                    refine V_iload dX12_leg_110 rfl ?_
                    refine V_if_eq 147 dX12_leg_112 rfl (fun z_ => (by first | exact absurd (by decide) z_ | exact absurd z_ (by decide))) (fun _ => ?_)
                    refine V_iload dX12_leg_115 rfl ?_
                    refine V_if_eq 147 dX12_leg_117 rfl (fun _ => ?_) (fun z_ => (by first | exact absurd (by decide) z_ | exact absurd z_ (by decide)))
                    refine V_iconst (0 : Int32) dX12_leg_147 (by decide) ?_
                    refine V_callV1 (as := [.int (1 : Int32), .int (0 : Int32), .int (0 : Int32)]) (k' := 0) (n' := 0) (s_goes2 hS) mw_X12_goes ko_X12 rfl w_1223 w_20 w_1221 ar_X12_goes rfl ⟨rfl, rfl, rfl, rfl, rfl⟩ dX12_leg_148 (by decide) (shk hS 33 rfl) ?_
                    refine V_if_ne 156 dX12_leg_151 rfl (fun z_ => (by first | exact absurd (by decide) z_ | exact absurd z_ (by decide))) (fun _ => ?_)
                    refine V_iconst (0 : Int32) dX12_leg_154 (by decide) ?_
                    exact V_iret rfl dX12_leg_155 (k59 c1 c16 c31 c46 c52 c55 c58 c59 c60)
                  · replace c60 := jb_n.mp c60
                    refine V_iconst (1 : Int32) dX12_leg_105 (by decide) ?_
                    refine V_goto 110 dX12_leg_106 rfl ?_
                    refine V_iload dX12_leg_110 rfl ?_
                    refine V_if_eq 147 dX12_leg_112 rfl (fun z_ => (by first | exact absurd (by decide) z_ | exact absurd z_ (by decide))) (fun _ => ?_)
                    refine V_iload dX12_leg_115 rfl ?_
                    refine V_if_eq 147 dX12_leg_117 rfl (fun _ => ?_) (fun z_ => (by first | exact absurd (by decide) z_ | exact absurd z_ (by decide)))
                    refine V_iconst (0 : Int32) dX12_leg_147 (by decide) ?_
                    refine V_callV1 (as := [.int (1 : Int32), .int (1 : Int32), .int (0 : Int32)]) (k' := 0) (n' := 0) (s_goes3 hS) mw_X12_goes ko_X12 rfl w_1223 w_20 w_1221 ar_X12_goes rfl ⟨rfl, rfl, rfl, rfl, rfl⟩ dX12_leg_148 (by decide) (shk hS 33 rfl) ?_
                    refine V_if_ne 156 dX12_leg_151 rfl (fun z_ => (by first | exact absurd (by decide) z_ | exact absurd z_ (by decide))) (fun _ => ?_)
                    refine V_iconst (0 : Int32) dX12_leg_154 (by decide) ?_
                    exact V_iret rfl dX12_leg_155 (k60 c1 c16 c31 c46 c52 c55 c58 c59 c60)
              · refine V_iconst (1 : Int32) dX12_leg_75 (by decide) ?_
                refine V_goto 80 dX12_leg_76 rfl ?_
                refine V_istore [(0, .ref 33), (1, .int v1), (2, .int v2), (3, .int v3), (4, .int v4), (5, .int (1 : Int32)), (6, .int (1 : Int32))] dX12_leg_80 rfl rfl ?_
                refine V_aload_n dX12_leg_82 rfl ?_
                refine V_iload dX12_leg_83 rfl ?_
                refine V_iload_n dX12_leg_85 rfl ?_
                refine V_iload_n dX12_leg_86 rfl ?_
                refine V_icmp_eq 109 dX12_leg_87 rfl (fun c61 => ?_) (fun c61 => ?_)
                · refine V_iconst (0 : Int32) dX12_leg_109 (by decide) ?_
                  refine V_iload dX12_leg_110 rfl ?_
                  refine V_if_eq 147 dX12_leg_112 rfl (fun z_ => (by first | exact absurd (by decide) z_ | exact absurd z_ (by decide))) (fun _ => ?_)
                  refine V_iload dX12_leg_115 rfl ?_
                  refine V_if_eq 147 dX12_leg_117 rfl (fun z_ => (by first | exact absurd (by decide) z_ | exact absurd z_ (by decide))) (fun _ => ?_)
                  refine V_aload_n dX12_leg_120 rfl ?_
                  refine V_getf (fk := 1) (Value.ref 34) ko_X12 rfl w_1056 dX12_leg_121 (by decide) (shk hS 33 rfl) (congrArg Value.ref (shr hS 33 1 34 (by decide))) ?_
                  refine V_iload dX12_leg_124 rfl ?_
                  refine V_if_eq 138 dX12_leg_126 rfl (fun z_ => (by first | exact absurd (by decide) z_ | exact absurd z_ (by decide))) (fun _ => ?_)
                  refine V_bipush (10 : Int32) dX12_leg_129 (by decide) ?_
                  refine V_iload_n dX12_leg_131 rfl ?_
                  refine V_imul dX12_leg_132 ?_
                  refine V_iload_n dX12_leg_133 rfl ?_
                  refine V_iadd dX12_leg_134 ?_
                  refine V_goto 139 dX12_leg_135 rfl ?_
                  refine V_iald dX12_leg_139 (by decide) (shk hS 34 rfl) (vp_l (n := 100) (shl hS 34 rfl) (o9 c1 c16 c31 c46 c52 c55 c58 c61)) ?_
                  refine V_if_le 147 dX12_leg_140 rfl (fun c62 => ?_) (fun c62 => ?_)
                  · refine V_iconst (0 : Int32) dX12_leg_147 (by decide) ?_
                    refine V_callV1 (as := [.int (1 : Int32), .int (0 : Int32), .int (0 : Int32)]) (k' := 0) (n' := 0) (s_goes2 hS) mw_X12_goes ko_X12 rfl w_1223 w_20 w_1221 ar_X12_goes rfl ⟨rfl, rfl, rfl, rfl, rfl⟩ dX12_leg_148 (by decide) (shk hS 33 rfl) ?_
                    refine V_if_ne 156 dX12_leg_151 rfl (fun z_ => (by first | exact absurd (by decide) z_ | exact absurd z_ (by decide))) (fun _ => ?_)
                    refine V_iconst (0 : Int32) dX12_leg_154 (by decide) ?_
                    exact V_iret rfl dX12_leg_155 (k61 c1 c16 c31 c46 c52 c55 c58 c61 c62)
                  · refine V_iconst (1 : Int32) dX12_leg_143 (by decide) ?_
                    refine V_goto 148 dX12_leg_144 rfl ?_
                    refine V_callV1 (as := [.int (1 : Int32), .int (0 : Int32), .int (1 : Int32)]) (k' := 0) (n' := 0) (s_goes2 hS) mw_X12_goes ko_X12 rfl w_1223 w_20 w_1221 ar_X12_goes rfl ⟨rfl, rfl, rfl, rfl, rfl⟩ dX12_leg_148 (by decide) (shk hS 33 rfl) ?_
                    refine V_if_ne 156 dX12_leg_151 rfl (fun z_ => (by first | exact absurd (by decide) z_ | exact absurd z_ (by decide))) (fun _ => ?_)
                    refine V_iconst (0 : Int32) dX12_leg_154 (by decide) ?_
                    exact V_iret rfl dX12_leg_155 (k62 c1 c16 c31 c46 c52 c55 c58 c61 c62)
                · refine V_iload dX12_leg_90 rfl ?_
                  refine V_aload_n dX12_leg_92 rfl ?_
                  refine V_getf (fk := 0) (Value.int (zI σ 33 0)) ko_X12 rfl w_1055 dX12_leg_93 (by decide) (shk hS 33 rfl) rfl ?_
                  refine V_sipush (999 : Int32) dX12_leg_96 (by decide) ?_
                  refine V_callS1 (as := [.int v4, .int (zI σ 33 0), .int (999 : Int32)]) (k' := 0) (n' := 0) (s_X12_in) mw_X12_in w_1219 w_1218 ar_X12_in rfl ⟨rfl, rfl, rfl, rfl, rfl⟩ dX12_leg_99 ?_
                  refine V_if_eq 109 dX12_leg_102 rfl (fun c63 => ?_) (fun c63 => ?_)
                  · replace c63 := jb_0.mp c63
                    refine V_iconst (0 : Int32) dX12_leg_109 (by decide) ?_
                    refine V_iload dX12_leg_110 rfl ?_
                    refine V_if_eq 147 dX12_leg_112 rfl (fun z_ => (by first | exact absurd (by decide) z_ | exact absurd z_ (by decide))) (fun _ => ?_)
                    refine V_iload dX12_leg_115 rfl ?_
                    refine V_if_eq 147 dX12_leg_117 rfl (fun z_ => (by first | exact absurd (by decide) z_ | exact absurd z_ (by decide))) (fun _ => ?_)
                    refine V_aload_n dX12_leg_120 rfl ?_
                    refine V_getf (fk := 1) (Value.ref 34) ko_X12 rfl w_1056 dX12_leg_121 (by decide) (shk hS 33 rfl) (congrArg Value.ref (shr hS 33 1 34 (by decide))) ?_
                    refine V_iload dX12_leg_124 rfl ?_
                    refine V_if_eq 138 dX12_leg_126 rfl (fun z_ => (by first | exact absurd (by decide) z_ | exact absurd z_ (by decide))) (fun _ => ?_)
                    refine V_bipush (10 : Int32) dX12_leg_129 (by decide) ?_
                    refine V_iload_n dX12_leg_131 rfl ?_
                    refine V_imul dX12_leg_132 ?_
                    refine V_iload_n dX12_leg_133 rfl ?_
                    refine V_iadd dX12_leg_134 ?_
                    refine V_goto 139 dX12_leg_135 rfl ?_
                    refine V_iald dX12_leg_139 (by decide) (shk hS 34 rfl) (vp_l (n := 100) (shl hS 34 rfl) (o10 c1 c16 c31 c46 c52 c55 c58 c61 c63)) ?_
                    refine V_if_le 147 dX12_leg_140 rfl (fun c64 => ?_) (fun c64 => ?_)
                    · refine V_iconst (0 : Int32) dX12_leg_147 (by decide) ?_
                      refine V_callV1 (as := [.int (1 : Int32), .int (0 : Int32), .int (0 : Int32)]) (k' := 0) (n' := 0) (s_goes2 hS) mw_X12_goes ko_X12 rfl w_1223 w_20 w_1221 ar_X12_goes rfl ⟨rfl, rfl, rfl, rfl, rfl⟩ dX12_leg_148 (by decide) (shk hS 33 rfl) ?_
                      refine V_if_ne 156 dX12_leg_151 rfl (fun z_ => (by first | exact absurd (by decide) z_ | exact absurd z_ (by decide))) (fun _ => ?_)
                      refine V_iconst (0 : Int32) dX12_leg_154 (by decide) ?_
                      exact V_iret rfl dX12_leg_155 (k63 c1 c16 c31 c46 c52 c55 c58 c61 c63 c64)
                    · refine V_iconst (1 : Int32) dX12_leg_143 (by decide) ?_
                      refine V_goto 148 dX12_leg_144 rfl ?_
                      refine V_callV1 (as := [.int (1 : Int32), .int (0 : Int32), .int (1 : Int32)]) (k' := 0) (n' := 0) (s_goes2 hS) mw_X12_goes ko_X12 rfl w_1223 w_20 w_1221 ar_X12_goes rfl ⟨rfl, rfl, rfl, rfl, rfl⟩ dX12_leg_148 (by decide) (shk hS 33 rfl) ?_
                      refine V_if_ne 156 dX12_leg_151 rfl (fun z_ => (by first | exact absurd (by decide) z_ | exact absurd z_ (by decide))) (fun _ => ?_)
                      refine V_iconst (0 : Int32) dX12_leg_154 (by decide) ?_
                      exact V_iret rfl dX12_leg_155 (k64 c1 c16 c31 c46 c52 c55 c58 c61 c63 c64)
                  · replace c63 := jb_n.mp c63
                    refine V_iconst (1 : Int32) dX12_leg_105 (by decide) ?_
                    refine V_goto 110 dX12_leg_106 rfl ?_
                    refine V_iload dX12_leg_110 rfl ?_
                    refine V_if_eq 147 dX12_leg_112 rfl (fun z_ => (by first | exact absurd (by decide) z_ | exact absurd z_ (by decide))) (fun _ => ?_)
                    refine V_iload dX12_leg_115 rfl ?_
                    refine V_if_eq 147 dX12_leg_117 rfl (fun z_ => (by first | exact absurd (by decide) z_ | exact absurd z_ (by decide))) (fun _ => ?_)
                    refine V_aload_n dX12_leg_120 rfl ?_
                    refine V_getf (fk := 1) (Value.ref 34) ko_X12 rfl w_1056 dX12_leg_121 (by decide) (shk hS 33 rfl) (congrArg Value.ref (shr hS 33 1 34 (by decide))) ?_
                    refine V_iload dX12_leg_124 rfl ?_
                    refine V_if_eq 138 dX12_leg_126 rfl (fun z_ => (by first | exact absurd (by decide) z_ | exact absurd z_ (by decide))) (fun _ => ?_)
                    refine V_bipush (10 : Int32) dX12_leg_129 (by decide) ?_
                    refine V_iload_n dX12_leg_131 rfl ?_
                    refine V_imul dX12_leg_132 ?_
                    refine V_iload_n dX12_leg_133 rfl ?_
                    refine V_iadd dX12_leg_134 ?_
                    refine V_goto 139 dX12_leg_135 rfl ?_
                    refine V_iald dX12_leg_139 (by decide) (shk hS 34 rfl) (vp_l (n := 100) (shl hS 34 rfl) (o11 c1 c16 c31 c46 c52 c55 c58 c61 c63)) ?_
                    refine V_if_le 147 dX12_leg_140 rfl (fun c65 => ?_) (fun c65 => ?_)
                    · refine V_iconst (0 : Int32) dX12_leg_147 (by decide) ?_
                      refine V_callV1 (as := [.int (1 : Int32), .int (1 : Int32), .int (0 : Int32)]) (k' := 0) (n' := 0) (s_goes3 hS) mw_X12_goes ko_X12 rfl w_1223 w_20 w_1221 ar_X12_goes rfl ⟨rfl, rfl, rfl, rfl, rfl⟩ dX12_leg_148 (by decide) (shk hS 33 rfl) ?_
                      refine V_if_ne 156 dX12_leg_151 rfl (fun z_ => (by first | exact absurd (by decide) z_ | exact absurd z_ (by decide))) (fun _ => ?_)
                      refine V_iconst (0 : Int32) dX12_leg_154 (by decide) ?_
                      exact V_iret rfl dX12_leg_155 (k65 c1 c16 c31 c46 c52 c55 c58 c61 c63 c65)
                    · refine V_iconst (1 : Int32) dX12_leg_143 (by decide) ?_
                      refine V_goto 148 dX12_leg_144 rfl ?_
                      refine V_callV1 (as := [.int (1 : Int32), .int (1 : Int32), .int (1 : Int32)]) (k' := 0) (n' := 0) (s_goes0 hS) mw_X12_goes ko_X12 rfl w_1223 w_20 w_1221 ar_X12_goes rfl ⟨rfl, rfl, rfl, rfl, rfl⟩ dX12_leg_148 (by decide) (shk hS 33 rfl) ?_
                      refine V_if_ne 156 dX12_leg_151 rfl (fun _ => ?_) (fun z_ => (by first | exact absurd (by decide) z_ | exact absurd z_ (by decide)))
                      refine V_aload_n dX12_leg_156 rfl ?_
                      refine V_getf (fk := 17) (Value.ref 46) ko_X12 rfl w_1072 dX12_leg_157 (by decide) (shk (Sh_uI hS) 33 rfl) (congrArg Value.ref (shr (Sh_uI hS) 33 17 46 (by decide))) ?_
                      refine V_aload_n dX12_leg_160 rfl ?_
                      refine V_getf (fk := 16) (Value.int (zI σ 33 16)) ko_X12 rfl w_1071 dX12_leg_161 (by decide) (shk (Sh_uI hS) 33 rfl) (congrArg Value.int (zI_oth _ _ _ _ _ _ (by decide))) ?_
                      refine V_iload_n dX12_leg_164 rfl ?_
                      refine V_iast dX12_leg_165 (by decide) (shk (Sh_uI hS) 46 rfl) (vp_l (n := 8) (shl (Sh_uI hS) 46 rfl) (o12 c1 c16 c31 c46 c52 c55 c58 c61 c63 c65)) ?_
                      refine V_aload_n dX12_leg_166 rfl ?_
                      refine V_getf (fk := 18) (Value.ref 47) ko_X12 rfl w_1073 dX12_leg_167 (by decide) (shk (Sh_uI (Sh_uI hS)) 33 rfl) (congrArg Value.ref (shr (Sh_uI (Sh_uI hS)) 33 18 47 (by decide))) ?_
                      refine V_aload_n dX12_leg_170 rfl ?_
                      refine V_getf (fk := 16) (Value.int (zI σ 33 16)) ko_X12 rfl w_1071 dX12_leg_171 (by decide) (shk (Sh_uI (Sh_uI hS)) 33 rfl) (congrArg Value.int ((zI_oa _ _ _ _ _ _ (by decide)).trans (zI_oth _ _ _ _ _ _ (by decide)))) ?_
                      refine V_iload_n dX12_leg_174 rfl ?_
                      refine V_iast dX12_leg_175 (by decide) (shk (Sh_uI (Sh_uI hS)) 47 rfl) (vp_l (n := 8) (shl (Sh_uI (Sh_uI hS)) 47 rfl) (o12 c1 c16 c31 c46 c52 c55 c58 c61 c63 c65)) ?_
                      refine V_aload_n dX12_leg_176 rfl ?_
                      refine V_getf (fk := 19) (Value.ref 48) ko_X12 rfl w_1074 dX12_leg_177 (by decide) (shk (Sh_uI (Sh_uI (Sh_uI hS))) 33 rfl) (congrArg Value.ref (shr (Sh_uI (Sh_uI (Sh_uI hS))) 33 19 48 (by decide))) ?_
                      refine V_aload_n dX12_leg_180 rfl ?_
                      refine V_getf (fk := 16) (Value.int (zI σ 33 16)) ko_X12 rfl w_1071 dX12_leg_181 (by decide) (shk (Sh_uI (Sh_uI (Sh_uI hS))) 33 rfl) (congrArg Value.int (((zI_oa _ _ _ _ _ _ (by decide)).trans (zI_oa _ _ _ _ _ _ (by decide))).trans (zI_oth _ _ _ _ _ _ (by decide)))) ?_
                      refine V_iload_n dX12_leg_184 rfl ?_
                      refine V_iast dX12_leg_185 (by decide) (shk (Sh_uI (Sh_uI (Sh_uI hS))) 48 rfl) (vp_l (n := 8) (shl (Sh_uI (Sh_uI (Sh_uI hS))) 48 rfl) (o12 c1 c16 c31 c46 c52 c55 c58 c61 c63 c65)) ?_
                      refine V_aload_n dX12_leg_186 rfl ?_
                      refine V_getf (fk := 20) (Value.ref 49) ko_X12 rfl w_1075 dX12_leg_187 (by decide) (shk (Sh_uI (Sh_uI (Sh_uI (Sh_uI hS)))) 33 rfl) (congrArg Value.ref (shr (Sh_uI (Sh_uI (Sh_uI (Sh_uI hS)))) 33 20 49 (by decide))) ?_
                      refine V_aload_n dX12_leg_190 rfl ?_
                      refine V_getf (fk := 16) (Value.int (zI σ 33 16)) ko_X12 rfl w_1071 dX12_leg_191 (by decide) (shk (Sh_uI (Sh_uI (Sh_uI (Sh_uI hS)))) 33 rfl) (congrArg Value.int ((((zI_oa _ _ _ _ _ _ (by decide)).trans (zI_oa _ _ _ _ _ _ (by decide))).trans (zI_oa _ _ _ _ _ _ (by decide))).trans (zI_oth _ _ _ _ _ _ (by decide)))) ?_
                      refine V_iload dX12_leg_194 rfl ?_
                      refine V_iast dX12_leg_196 (by decide) (shk (Sh_uI (Sh_uI (Sh_uI (Sh_uI hS)))) 49 rfl) (vp_l (n := 8) (shl (Sh_uI (Sh_uI (Sh_uI (Sh_uI hS)))) 49 rfl) (o12 c1 c16 c31 c46 c52 c55 c58 c61 c63 c65)) ?_
                      refine V_aload_n dX12_leg_197 rfl ?_
                      refine V_dup dX12_leg_198 rfl ?_
                      refine V_getf (fk := 16) (Value.int (zI σ 33 16)) ko_X12 rfl w_1071 dX12_leg_199 (by decide) (shk (Sh_uI (Sh_uI (Sh_uI (Sh_uI (Sh_uI hS))))) 33 rfl) (congrArg Value.int (((((zI_oa _ _ _ _ _ _ (by decide)).trans (zI_oa _ _ _ _ _ _ (by decide))).trans (zI_oa _ _ _ _ _ _ (by decide))).trans (zI_oa _ _ _ _ _ _ (by decide))).trans (zI_oth _ _ _ _ _ _ (by decide)))) ?_
                      refine V_iconst (1 : Int32) dX12_leg_202 (by decide) ?_
                      refine V_iadd dX12_leg_203 ?_
                      refine V_puti (fk := 16) ko_X12 rfl w_1071 (Or.inl rfl) dX12_leg_204 rfl (by decide) (shk (Sh_uI (Sh_uI (Sh_uI (Sh_uI (Sh_uI hS))))) 33 rfl) ?_
                      refine V_aload_n dX12_leg_207 rfl ?_
                      refine V_getf (fk := 16) (Value.int ((zI σ 33 16) + (1 : Int32))) ko_X12 rfl w_1071 dX12_leg_208 (by decide) (shk (Sh_uI (Sh_uI (Sh_uI (Sh_uI (Sh_uI (Sh_uI hS)))))) 33 rfl) (congrArg Value.int (zI_self _ _ _ _)) ?_
                      exact V_iret rfl dX12_leg_211 (k66 c1 c16 c31 c46 c52 c55 c58 c61 c63 c65)

set_option maxRecDepth 100000 in
set_option maxHeartbeats 4000000 in
theorem s_X12_leg {g : GP} {Q : AH → Option Value → Prop} {v1 : Int32} {v2 : Int32} {v3 : Int32} {v4 : Int32} {σ : AH} (hS : Sh σ) (hL : vp_in (zI σ 33 16) 9)
    (q1 : ¬ (isPl v1 ∧ isPl v2 ∧ isCa v3) → Q (uI σ 33 49 (1 : Int32)) (some (.int 0)))
    (q2 : (isPl v1 ∧ isPl v2 ∧ isCa v3) → ¬ (¬ v1 = v2 ∧ isWi v4 (zI σ 33 0) 999) → Q (uI σ 33 49 (2 : Int32)) (some (.int 0)))
    (q3 : (isPl v1 ∧ isPl v2 ∧ isCa v3) → (¬ v1 = v2 ∧ isWi v4 (zI σ 33 0) 999) → ¬ ((zI σ 33 16 = 0 ∨ (¬ 8 ≤ zI σ 33 16 ∧ zI σ 47 (ix (zI σ 33 16 - 1)) = v1 ∧ ¬ v4 < zI σ 49 (ix (zI σ 33 16 - 1)))) ∧ ¬ zI σ 34 (p2 v1 v2) ≤ 0) → Q (uI σ 33 49 (3 : Int32)) (some (.int 0)))
    (q0 : (isPl v1 ∧ isPl v2 ∧ isCa v3) → (¬ v1 = v2 ∧ isWi v4 (zI σ 33 0) 999) → ((zI σ 33 16 = 0 ∨ (¬ 8 ≤ zI σ 33 16 ∧ zI σ 47 (ix (zI σ 33 16 - 1)) = v1 ∧ ¬ v4 < zI σ 49 (ix (zI σ 33 16 - 1)))) ∧ ¬ zI σ 34 (p2 v1 v2) ≤ 0) → Q (uI (uI (uI (uI (uI (uI σ 33 49 0) 46 (leN σ) v1) 47 (leN σ) v2) 48 (leN σ) v3) 49 (leN σ) v4) 33 16 (zI σ 33 16 + 1)) (some (.int (zI σ 33 16 + 1)))) :
    Ct g mX12_leg [.ref 33, .int v1, .int v2, .int v3, .int v4] σ Q := by
  refine Ct_of (by decide +kernel) rfl rfl ?_
  by_cases a1 : isPl v1 ∧ isPl v2 ∧ isCa v3
  · by_cases a2 : ¬ v1 = v2 ∧ isWi v4 (zI σ 33 0) 999
    · by_cases a3 : (zI σ 33 16 = 0 ∨ (¬ 8 ≤ zI σ 33 16 ∧ zI σ 47 (ix (zI σ 33 16 - 1)) = v1 ∧ ¬ v4 < zI σ 49 (ix (zI σ 33 16 - 1)))) ∧ ¬ zI σ 34 (p2 v1 v2) ≤ 0
      · have q := q0 a1 a2 a3
        clear q0 q1 q2 q3
        obtain ⟨x1_0, x1_1, x1_2⟩ := id a1
        obtain ⟨x2_0, x2_1⟩ := id a2
        obtain ⟨x3_0, x3_1⟩ := id a3
        rcases x3_0 with y0 | ⟨y0, y1, y2⟩
        all_goals refine b_X12_leg_0 hS ?_ ?_ ?_ ?_ ?_ ?_ ?_ ?_ ?_ ?_ ?_ ?_ ?_ ?_ ?_ ?_ ?_ ?_ ?_ ?_ ?_ ?_ ?_ ?_ ?_ ?_ ?_ ?_ ?_ ?_ ?_ ?_ ?_ ?_ ?_ ?_ ?_ ?_ ?_ ?_ ?_ ?_ ?_ ?_ ?_ ?_ ?_ ?_ ?_ ?_ ?_ ?_ ?_ ?_ ?_ ?_ ?_ ?_ ?_ ?_ ?_ ?_ ?_ ?_ ?_ ?_ ?_ ?_ ?_ ?_ ?_ ?_ ?_ ?_ ?_ ?_ ?_ ?_
        all_goals first | (intros; contradiction) | (intros; with_reducible exact vp_pr hL (by assumption)) | (intros; with_reducible exact (vp_mul (isPl_vp (by assumption)) (isPl_vp (by assumption))).1) | (intros; with_reducible exact vp_pl8 hL (by assumption)) | (intros; with_reducible exact vp_z8 (by assumption)) | (intros; exact q)
      · have q := q3 a1 a2 a3
        clear q0 q1 q2 q3
        obtain ⟨x1_0, x1_1, x1_2⟩ := id a1
        obtain ⟨x2_0, x2_1⟩ := id a2
        all_goals refine b_X12_leg_0 hS ?_ ?_ ?_ ?_ ?_ ?_ ?_ ?_ ?_ ?_ ?_ ?_ ?_ ?_ ?_ ?_ ?_ ?_ ?_ ?_ ?_ ?_ ?_ ?_ ?_ ?_ ?_ ?_ ?_ ?_ ?_ ?_ ?_ ?_ ?_ ?_ ?_ ?_ ?_ ?_ ?_ ?_ ?_ ?_ ?_ ?_ ?_ ?_ ?_ ?_ ?_ ?_ ?_ ?_ ?_ ?_ ?_ ?_ ?_ ?_ ?_ ?_ ?_ ?_ ?_ ?_ ?_ ?_ ?_ ?_ ?_ ?_ ?_ ?_ ?_ ?_ ?_ ?_
        all_goals first | (intros; with_reducible exact q) | (intros; contradiction) | (intros; with_reducible exact vp_pr hL (by assumption)) | (intros; with_reducible exact (vp_mul (isPl_vp (by assumption)) (isPl_vp (by assumption))).1) | (intros; with_reducible exact vp_pl8 hL (by assumption)) | (intros; with_reducible exact vp_z8 (by assumption)) | (intros; with_reducible exact absurd ⟨(Or.inl (by assumption)), (by assumption)⟩ a3) | (intros; with_reducible exact absurd ⟨(Or.inr ⟨(by assumption), (by assumption), (by assumption)⟩), (by assumption)⟩ a3) | (intros; exact q) | (intros; exfalso; simp_all; done)
    · have q := q2 a1 a2
      clear q0 q1 q2 q3
      obtain ⟨x1_0, x1_1, x1_2⟩ := id a1
      all_goals refine b_X12_leg_0 hS ?_ ?_ ?_ ?_ ?_ ?_ ?_ ?_ ?_ ?_ ?_ ?_ ?_ ?_ ?_ ?_ ?_ ?_ ?_ ?_ ?_ ?_ ?_ ?_ ?_ ?_ ?_ ?_ ?_ ?_ ?_ ?_ ?_ ?_ ?_ ?_ ?_ ?_ ?_ ?_ ?_ ?_ ?_ ?_ ?_ ?_ ?_ ?_ ?_ ?_ ?_ ?_ ?_ ?_ ?_ ?_ ?_ ?_ ?_ ?_ ?_ ?_ ?_ ?_ ?_ ?_ ?_ ?_ ?_ ?_ ?_ ?_ ?_ ?_ ?_ ?_ ?_ ?_
      all_goals first | (intros; with_reducible exact q) | (intros; contradiction) | (intros; with_reducible exact vp_pr hL (by assumption)) | (intros; with_reducible exact (vp_mul (isPl_vp (by assumption)) (isPl_vp (by assumption))).1) | (intros; with_reducible exact vp_pl8 hL (by assumption)) | (intros; with_reducible exact vp_z8 (by assumption)) | (intros; with_reducible exact absurd ⟨(by assumption), (by assumption)⟩ a2) | (intros; exact q) | (intros; exfalso; simp_all; done)
  · have q := q1 a1
    clear q0 q1 q2 q3
    all_goals refine b_X12_leg_0 hS ?_ ?_ ?_ ?_ ?_ ?_ ?_ ?_ ?_ ?_ ?_ ?_ ?_ ?_ ?_ ?_ ?_ ?_ ?_ ?_ ?_ ?_ ?_ ?_ ?_ ?_ ?_ ?_ ?_ ?_ ?_ ?_ ?_ ?_ ?_ ?_ ?_ ?_ ?_ ?_ ?_ ?_ ?_ ?_ ?_ ?_ ?_ ?_ ?_ ?_ ?_ ?_ ?_ ?_ ?_ ?_ ?_ ?_ ?_ ?_ ?_ ?_ ?_ ?_ ?_ ?_ ?_ ?_ ?_ ?_ ?_ ?_ ?_ ?_ ?_ ?_ ?_ ?_
    all_goals first | (intros; with_reducible exact q) | (intros; contradiction) | (intros; with_reducible exact vp_pr hL (by assumption)) | (intros; with_reducible exact (vp_mul (isPl_vp (by assumption)) (isPl_vp (by assumption))).1) | (intros; with_reducible exact vp_pl8 hL (by assumption)) | (intros; with_reducible exact vp_z8 (by assumption)) | (intros; with_reducible exact absurd ⟨(by assumption), (by assumption), (by assumption)⟩ a1) | (intros; exact q) | (intros; exfalso; simp_all; done)
